/**
 * The sentences of 'Terms' from Stations to Giving up that name a boundary: each has a test of its own, called by its
 * words. A station of the seed 1 draws 16838, 5758, 10113, 17515, 31051: modulo 4 they are 2, 2, 1, 3, 3, and modulo
 * 2, 4, 8, 16 one after the other 0, 2, 1, 11.
 */
public final class NetTests {
    private static final int FAR = 63;

    public static void main(String[] args) {
        sixStations();
        randomOfAStation();
        seedsOfTheirOwn();
        remembersKindsApart();
        numbersOfMessages();
        numbersOfWishes();
        atTheEndOfTheQueue();
        arrivedWhenTaken();
        lostByARelay();
        notLostOnceArrived();
        lostButArrivesLater();
        twelveSlotsAgo();
        threeWishes();
        sixteenWishes();
        noFurtherInThisSlot();
        noWishWithAWay();
        inFrontOfAllFrames();
        wishForAWay();
        countedAnew();
        countedOnForTheSame();
        wishesAtEachTurn();
        answerGoesFirst();
        onlyHears();
        speaksOnBehindAWishOrAnAnswer();
        waitDecreases();
        firstThatCanGo();
        leavesTheQueue();
        toItOrToAll();
        valueOfAnAnswer();
        dataTakenAlready();
        wayTakenAlready();
        wayOverridesFewerHops();
        wishKeepsFewerHopsOrAsMany();
        notItsOwnOrigin();
        wishTakenAlready();
        numberOfTheWish();
        waitIfTheWaitIsNone();
        endOfTheQueueOfARelay();
        wayAtTheEndOfTheQueue();
        dataKeepTheirValue();
        valueGrowsByOne();
        triesAndWaits();
        fiveTries();
        noNumberIsDrawnAtFiveTries();
        waysOverThatOneAreGone();
        triesAreNoneBehindAnAnswer();
        wishesNeedNoAnswer();
        wayGivenUpLosesNoMessage();
        Due.end("net");
    }

    private static String fates(Radiohearth x, int messages) {
        StringBuilder text = new StringBuilder();
        for (int i = 0; i < messages; i++) {
            text.append(x.fate(i));
        }
        return text.toString();
    }

    private static int way(Radiohearth x, int station, int goal) {
        return 10 * x.wayOver(station, goal) + x.wayHops(station, goal);
    }

    /** Three stations in a row, where the first one has sent a message to the last one in 12 slots. */
    private static Radiohearth row() {
        Radiohearth x = Frames.at(0, 12, 24);
        x.send(0, 2, 9);
        x.slot(12);
        return x;
    }

    // ---- stations

    private static void sixStations() {
        Due.by("At most 6 stations are numbered from 0");
        Radiohearth x = new Radiohearth();
        for (int i = 0; i < 6; i++) {
            int next = i;
            Due.thrown("queue(" + i + ") ahead", Due.OUT, () -> x.queue(next));
            Due.is("addStation", x.addStation(10 * i, 1, 1), i);
            Due.is("queue(" + i + ")", x.queue(i), 0);
        }
        Due.thrown("the seventh", Due.FULL, () -> x.addStation(0, 1, 1));
        Due.thrown("queue(6)", Due.OUT, () -> x.queue(6));
        Due.is("the last one's gain", x.gain(5, 4), 6);
    }

    private static void randomOfAStation() {
        Due.by("Its random number is made of its seed as that of the air, without the modulo");
        dueWaits(1, 2, 2, 1);
        dueWaits(2, 0, 1, 3);
        dueWaits(3, 3, 3, 1);
        dueWaits(999, 0, 0, 3);
    }

    private static void dueWaits(int seed, int... waits) {
        Radiohearth x = Frames.at(0);
        x.addStation(12, 2, seed);
        x.addStation(FAR, 2, 1);
        x.send(0, 2, 1);
        for (int i = 0; i < waits.length; i++) {
            x.slot(1);
            Due.is("wait " + i + " of the seed " + seed, x.waitOf(1), waits[i]);
            x.slot(11);
        }
    }

    private static void seedsOfTheirOwn() {
        Due.by("A station has a seed");
        Radiohearth x = Frames.at(0, 10, 10, FAR);
        x.setNoise(1);
        x.send(0, 3, 1);
        x.slot(1);
        Due.is("one does not draw for the other, nor the air", x.waitOf(1) * 10 + x.waitOf(2), 22);
    }

    private static void remembersKindsApart() {
        Due.by("remembers which data, by their origins and numbers, which wishes, .. and which ways, by theirs");
        Radiohearth x = Frames.friends(0, 5, FAR);
        Due.is("data behind a wish of the same number", x.arrivedIn(0), 4);
        x.send(1, 0, 9);
        x.slot(1);
        Due.is("data behind a way of the same number", x.arrivedIn(1), 6);
        x.slot(1);
        x.send(1, 2, 9);
        x.slot(1);
        Due.is("the wish", x.frame(0), Frames.wish(1, 1, 2, 0, 0));
        Due.is("a wish behind both", x.queue(0), 1);
        Radiohearth y = Frames.friends(0, 5, FAR);
        y.send(1, 0, 1);
        y.slot(2);
        y.send(1, 0, 2);
        y.slot(2);
        y.send(0, 1, 3);
        y.slot(2);
        Due.is("the same numbers from another one", fates(y, 4), "aaaa");
    }

    private static void numbersOfMessages() {
        Due.by("It sends at most 16 messages .., each with the next number from 0 on");
        Radiohearth x = Frames.at(0, 5);
        for (int i = 0; i < 16; i++) {
            x.send(0, 1, 100 + i);
        }
        Due.thrown("the 17th", Due.FULL, () -> x.send(0, 1, 1));
        x.slot(3);
        for (int i = 0; i < 16; i++) {
            x.slot(1);
            Due.is("message " + i, x.frame(1), Frames.frame(Frames.DATA, 0, 1, 0, 1, i, 100 + i));
            x.slot(1);
        }
        Due.is("all of them", x.arrivals(1), 16);
        Due.is("queue", x.queue(0), 0);
        Due.thrown("the 17th when all have arrived", Due.FULL, () -> x.send(0, 1, 1));
        Due.is("the other one has its own", x.send(1, 0, 1), 16);
        x.slot(1);
        Due.is("numbered from 0", x.frame(0), Frames.frame(Frames.DATA, 1, 0, 1, 0, 0, 1));
    }

    private static void numbersOfWishes() {
        Due.by("and 16 wishes, each with the next number from 0 on");
        Radiohearth x = Frames.at(0, 5, FAR);
        for (int i = 0; i < 6; i++) {
            x.send(0, 2, i);
        }
        for (int i = 0; i < 16; i++) {
            x.slot(1);
            Due.is("wish " + i, x.frame(1), Frames.wish(0, 0, 2, i, 0));
            Due.is("made", x.wishes(0), i + 1);
            x.slot(i % 3 == 2 ? 12 : 11);
        }
        x.slot(20);
        Due.is("no more", x.wishes(0), 16);
        Due.is("all given up", fates(x, 6), "llllll");
        Radiohearth y = Frames.friends(0, 5, FAR);
        y.send(0, 1, 1);
        y.send(0, 1, 1);
        y.slot(4);
        y.send(0, 2, 1);
        y.slot(1);
        Due.is("messages do not count", y.frame(1), Frames.wish(0, 0, 2, 1, 0));
    }

    // ---- messages

    private static void atTheEndOfTheQueue() {
        Due.by("It is a data frame at the end of the queue of its station");
        Radiohearth x = Frames.at(0, 5);
        for (int i = 0; i < 3; i++) {
            x.send(0, 1, 30 - i);
            Due.is("queue", x.queue(0), i + 1);
        }
        x.slot(9);
        Due.is("all have arrived", x.arrivals(1), 3);
        for (int i = 0; i < 3; i++) {
            Due.is("value " + i, x.arrivalAt(1, i), 30 - i);
        }
    }

    private static void arrivedWhenTaken() {
        Due.by("It has arrived when its goal takes it");
        Radiohearth x = Frames.at(0, 5);
        x.send(0, 1, 1);
        x.slot(3);
        Due.is("a slot ahead", x.fate(0), '-');
        Due.is("none", x.arrivals(1), 0);
        x.slot(1);
        Due.is("taken", x.fate(0), 'a');
        Due.is("not answered yet", x.queue(0), 1);
        Radiohearth y = row();
        Due.is("slot at the goal, not at the relay", y.arrivedIn(0), 11);
        Due.is("none at the relay", y.arrivals(1), 0);
    }

    private static void lostByARelay() {
        Due.by("it is lost when a station gives it up, if it has not arrived");
        Radiohearth x = row();
        x.send(0, 2, 1);
        x.move(2, 45);
        x.slot(2);
        Due.is("its own station has done with it", x.queue(0), 0);
        Due.is("with the relay", x.queue(1), 1);
        x.slot(20);
        Due.is("not yet", x.fate(1), '-');
        x.slot(4);
        Due.is("a slot ahead", x.fate(1) + "" + x.queue(1), "-1");
        x.slot(1);
        Due.is("given up by the relay", x.fate(1) + "" + x.queue(1), "l0");
    }

    private static void notLostOnceArrived() {
        Due.by("a frame that is given up .. : its message is lost, unless it has arrived");
        Radiohearth x = Frames.friends(0, 5);
        x.send(0, 1, 1);
        x.slot(1);
        Due.is("taken", x.arrivedIn(1), 6);
        x.move(0, FAR);
        x.slot(20);
        x.slot(2);
        Due.is("still in the queue", x.queue(0), 1);
        x.slot(1);
        Due.is("given up", x.queue(0), 0);
        Due.is("and arrived", x.fate(1), 'a');
        Due.is("in the slot in which it was", x.arrivedIn(1), 6);
        Due.is("share", x.share(), 1.0f);
        Due.is("arrivals", x.arrivals(1), 2);
    }

    // The relay draws 5758 .. behind its wish: its waits are 0, 1, 3, 11, so that it speaks a last time in slot 38.
    private static void lostButArrivesLater() {
        Due.by("one that is lost arrives all the same, if its goal takes it later, and is not lost then");
        Radiohearth x = row();
        x.send(0, 2, 1);
        x.move(2, 45);
        x.slot(1);
        x.move(0, FAR);
        x.slot(20);
        x.slot(2);
        Due.is("slot 35", x.fate(1), '-');
        x.slot(1);
        Due.is("given up in slot 36", x.fate(1), 'l');
        Due.thrown("not arrived", Due.NONE, () -> x.arrivedIn(1));
        Due.is("share", x.share(), 0.5f);
        x.move(2, 24);
        x.slot(1);
        Due.is("slot 37", x.fate(1), 'l');
        x.slot(1);
        Due.is("taken", x.fate(1), 'a');
        Due.is("slot", x.arrivedIn(1), 38);
        Due.is("share", x.share(), 1.0f);
        Due.is("mean", x.meanSlots(), (11 + 26) / 2.0);
        Due.is("sound", x.isSound(), true);
    }

    // ---- wishing

    private static void twelveSlotsAgo() {
        Due.by("its last wish for it was made 12 slots ago or more");
        Radiohearth x = Frames.at(0, FAR);
        x.slot(7);
        x.send(0, 1, 1);
        Due.is("none yet", x.wishes(0), 0);
        x.slot(1);
        Due.is("at once", x.wishes(0), 1);
        x.slot(11);
        Due.is("11 slots ago", x.wishes(0), 1);
        x.slot(1);
        Due.is("12 slots ago", x.wishes(0), 2);
        x.slot(11);
        Due.is("11 slots ago again", x.wishes(0), 2);
        x.slot(1);
        Due.is("12 slots ago again", x.wishes(0), 3);
    }

    private static void threeWishes() {
        Due.by("if it has made 3 wishes for this frame, .. the frame is given up");
        Radiohearth x = Frames.at(0, FAR);
        x.send(0, 1, 1);
        x.slot(20);
        x.slot(16);
        Due.is("11 slots behind the third", x.fate(0) + "" + x.queue(0) + x.wishes(0), "-13");
        x.slot(1);
        Due.is("12 slots behind the third", x.fate(0) + "" + x.queue(0) + x.wishes(0), "l03");
        Due.is("spoken", x.spoken(0), 3);
    }

    private static void sixteenWishes() {
        Due.by("or 16 in all, the frame is given up");
        Radiohearth x = Frames.at(0, FAR);
        for (int i = 0; i < 7; i++) {
            x.send(0, 1, i);
        }
        for (int i = 0; i < 9; i++) {
            x.slot(20);
        }
        x.slot(5);
        Due.is("five frames with 3 wishes each", fates(x, 7) + x.wishes(0), "lllll--15");
        x.slot(1);
        Due.is("the 16th wish", x.wishes(0), 16);
        x.slot(11);
        Due.is("11 slots later", fates(x, 7), "lllll--");
        x.slot(1);
        Due.is("given up with 1 wish", fates(x, 7), "llllll-");
        x.slot(1);
        Due.is("given up without a wish", fates(x, 7), "lllllll");
        x.send(0, 1, 1);
        Due.is("one more", x.fate(7), '-');
        x.slot(1);
        Due.is("given up at once", x.fate(7), 'l');
        Due.is("no 17th", x.wishes(0), 16);
    }

    private static void noFurtherInThisSlot() {
        Due.by("and it looks no further in this slot");
        Radiohearth x = Frames.at(0, FAR);
        x.send(0, 1, 1);
        x.send(0, 1, 2);
        x.slot(20);
        x.slot(17);
        Due.is("the first is given up", fates(x, 2), "l-");
        Due.is("no wish for the second", x.wishes(0) * 10 + x.queue(0), 31);
        Due.is("nothing is spoken", x.heard(0), 'q');
        x.slot(1);
        Due.is("in the next slot", x.wishes(0), 4);
    }

    private static void noWishWithAWay() {
        Due.by("the first frame in its queue that is data or a way, for whose goal it has no way");
        Radiohearth x = Frames.friends(0, 5);
        x.send(0, 1, 1);
        x.slot(2);
        x.send(1, 0, 1);
        x.slot(2);
        Due.is("none of the one that heard a way", x.wishes(0), 1);
        Due.is("none of the one that heard a wish", x.wishes(1), 0);
        Due.is("arrived", fates(x, 3), "aaa");
    }

    private static void inFrontOfAllFrames() {
        Due.by("it makes a wish, in front of all frames of the queue: to all, .. the value 0");
        Radiohearth x = Frames.friends(0, 5, FAR);
        x.send(0, 1, 1);
        x.send(0, 2, 2);
        x.slot(1);
        Due.is("the wish ahead of data that have a way", x.frame(1), Frames.wish(0, 0, 2, 1, 0));
        x.slot(1);
        Due.is("then those data", x.frame(1), Frames.frame(Frames.DATA, 0, 1, 0, 1, 1, 1));
    }

    /**
     * The station 1 has data for 0 and behind them a way for 0, when its data fail and its way is gone, in slot 39:
     * 0 fails from slot 6 to 29, 1 from slot 16 to 39; in slot 30, 0 wishes for 1 anew.
     */
    private static Radiohearth wayWithoutAWay() {
        Radiohearth x = Frames.friends(0, 5);
        x.move(1, FAR);
        x.send(0, 1, 1);
        x.send(0, 1, 2);
        x.slot(10);
        x.send(1, 0, 3);
        x.slot(14);
        x.move(1, 5);
        x.slot(1);
        x.move(0, FAR);
        x.slot(9);
        return x;
    }

    private static void wishForAWay() {
        Due.by("data or a way, for whose goal it has no way");
        Radiohearth x = wayWithoutAWay();
        Due.is("data given up", x.fate(3), 'l');
        Due.is("the way waits", x.queue(1) * 10 + x.wishes(1), 10);
        x.move(0, 5);
        x.slot(1);
        Due.is("it wishes for the goal of the way", x.frame(0), Frames.wish(1, 1, 0, 0, 0));
        Due.is("wishes", x.wishes(1), 1);
    }

    // Slots 6, 18, 30: wishes for the last frame; in slot 32 the first one is given up, so that the second one has no
    // way: 33, 45, 57 for that one, given up in 69; then three wishes again for the last one, and no fewer.
    private static void countedAnew() {
        Due.by("if the first one is another one than before, its wishes are counted anew");
        Radiohearth x = Frames.friends(0, 5, FAR);
        x.send(0, 1, 1);
        x.send(0, 1, 2);
        x.send(0, 2, 3);
        x.move(1, 40);
        StringBuilder slots = new StringBuilder();
        int made = 1;
        for (int slot = 6; slot <= 106; slot++) {
            x.slot(1);
            if (x.wishes(0) > made) {
                made = x.wishes(0);
                slots.append(slot).append(' ');
            }
            if (slot == 32 || slot == 69 || slot == 105) {
                Due.is("fates in slot " + slot, fates(x, 4), slot == 32 ? "al--" : slot == 69 ? "all-" : "all-");
            }
        }
        Due.is("wishes in slots", slots.toString(), "6 18 30 33 45 57 70 82 94 ");
        Due.is("given up in slot 106", fates(x, 4), "alll");
    }

    // In slot 12, a way for the last frame comes over 1; it is gone in slot 31, when the frame ahead fails over 1.
    private static void countedOnForTheSame() {
        Due.by("if it has made 3 wishes for this frame");
        Radiohearth x = Frames.friends(0, 12, 24);
        x.send(0, 1, 1);
        x.send(0, 2, 2);
        x.slot(1);
        Due.is("one", x.wishes(0), 2);
        x.move(1, 40);
        x.slot(1);
        x.move(1, 12);
        x.slot(5);
        Due.is("the way has come", way(x, 0, 2), 12);
        x.move(1, 40);
        x.slot(19);
        Due.thrown("the way is gone", Due.NONE, () -> x.wayOver(0, 2));
        Due.is("none meanwhile", fates(x, 3) + x.wishes(0), "al-2");
        x.slot(1);
        Due.is("the second", x.wishes(0), 3);
        x.slot(12);
        Due.is("the third", x.wishes(0), 4);
        x.slot(11);
        Due.is("not yet", x.fate(2), '-');
        x.slot(1);
        Due.is("given up behind 3 in all", fates(x, 3) + x.wishes(0), "all4");
    }

    // ---- turns

    private static void wishesAtEachTurn() {
        Due.by("first a station wishes, if it does");
        Radiohearth x = Frames.friends(0, 5, FAR);
        x.move(1, 40);
        x.send(0, 1, 1);
        x.slot(1);
        x.send(0, 2, 2);
        x.slot(1);
        Due.is("when it only hears", x.wishes(0) + "" + x.queue(0) + x.heard(0), "23q");
        Radiohearth y = Frames.friends(0, 5, FAR);
        y.send(0, 1, 1);
        y.slot(1);
        y.send(1, 2, 2);
        y.slot(1);
        Due.is("when it owes an answer", y.wishes(1) + "" + y.queue(1) + y.heard(1), "12s");
        Due.is("the answer", y.frame(0) >> 24, Frames.ANSWER);
        y.slot(1);
        Due.is("then its wish", y.frame(0), Frames.wish(1, 1, 2, 0, 0));
        Radiohearth z = Frames.at(0, 12, FAR);
        z.send(0, 2, 1);
        z.slot(1);
        z.send(1, 2, 2);
        z.slot(1);
        Due.is("when it waits", z.wishes(1) + "" + z.queue(1) + z.waitOf(1) + z.heard(1), "131q");
    }

    private static void answerGoesFirst() {
        Due.by("if it owes an answer, it speaks this; otherwise, .. if its wait is greater than 0");
        Radiohearth x = Frames.friends(0, 12, 24);
        x.send(0, 2, 1);
        x.slot(1);
        Due.is("wait for the wish", x.waitOf(1) * 10 + x.queue(1), 21);
        x.send(0, 1, 2);
        x.slot(1);
        Due.is("it waits and hears", x.waitOf(1) + "" + x.heard(1), "1u");
        x.slot(1);
        Due.is("it answers, and waits no less", x.waitOf(1) + "" + x.heard(1), "1s");
        Due.is("the answer", x.frame(0), Frames.frame(Frames.ANSWER, 1, 0, 0, 1, 2, 0));
        Due.is("its queue stands", x.queue(1), 1);
        x.slot(1);
        Due.is("it waits on", x.waitOf(1) + "" + x.heard(1), "0q");
        x.slot(1);
        Due.is("then the wish", x.waitOf(1) + "" + x.heard(1) + x.queue(1), "0s0");
    }

    private static void onlyHears() {
        Due.by("if it spoke a frame in the slot ahead that must be answered, it only hears");
        Radiohearth x = Frames.friends(0, 5);
        x.move(1, FAR);
        x.send(0, 1, 1);
        x.send(0, 1, 2);
        Due.is("deeds", Frames.deedsOf(x, 0, 4), "sqsq");
        Radiohearth y = Frames.at(0, 5);
        y.send(0, 1, 1);
        y.slot(1);
        y.send(1, 0, 2);
        y.move(0, FAR);
        Due.is("behind a way, too", Frames.deedsOf(y, 1, 2), "sq");
    }

    private static void speaksOnBehindAWishOrAnAnswer() {
        Due.by("a frame in the slot ahead that must be answered");
        Radiohearth x = Frames.friends(0, 5, FAR);
        x.send(0, 2, 1);
        x.send(0, 1, 2);
        Due.is("data right behind a wish", Frames.deedsOf(x, 0, 2), "ss");
        Due.is("arrived", x.arrivedIn(2), 7);
        Radiohearth y = Frames.at(0, 5);
        y.send(0, 1, 1);
        y.slot(2);
        Due.is("data right behind an answer", Frames.deedsOf(y, 0, 2), "ss");
    }

    private static void waitDecreases() {
        Due.by("if its wait is greater than 0, this decreases by 1");
        Radiohearth x = Frames.at(0, 12, FAR);
        x.send(0, 2, 1);
        x.slot(1);
        Due.is("wait", x.waitOf(1), 2);
        x.slot(1);
        Due.is("wait", x.waitOf(1) + "" + x.heard(1), "1q");
        x.slot(1);
        Due.is("none, but nothing is spoken", x.waitOf(1) + "" + x.heard(1), "0q");
        x.slot(1);
        Due.is("spoken", x.waitOf(1) + "" + x.heard(1), "0s");
        x.slot(1);
        Due.is("never below 0", x.waitOf(1) + "" + x.heard(1), "0q");
    }

    private static void firstThatCanGo() {
        Due.by("the first frame in its queue that is a wish, or for whose goal it has a way");
        Radiohearth x = Frames.friends(0, 5, FAR);
        x.send(0, 2, 1);
        x.send(0, 1, 2);
        x.send(0, 1, 3);
        x.slot(2);
        Due.is("the first one with a way", x.frame(1), Frames.frame(Frames.DATA, 0, 1, 0, 1, 2, 2));
        x.slot(2);
        Due.is("the next one", x.frame(1), Frames.frame(Frames.DATA, 0, 1, 0, 1, 3, 3));
        Due.is("that without a way stays", x.queue(0), 2);
        x.slot(3);
        Due.is("nothing can go", x.queue(0) + "" + x.heard(0), "1q");
        Radiohearth y = Frames.at(0, 5);
        y.slot(1);
        Due.is("an empty queue", Frames.deeds(y), "qq");
    }

    private static void leavesTheQueue() {
        Due.by("A wish leaves the queue when it is spoken; data and ways .. leave it when they are answered");
        Radiohearth x = Frames.at(0, 5);
        x.send(0, 1, 1);
        int[] first = {1, 1, 1, 1, 0};
        int[] second = {1, 1, 0, 0, 0};
        for (int slot = 0; slot < 5; slot++) {
            x.slot(1);
            Due.is("queue of 0 in slot " + (slot + 1), x.queue(0), first[slot]);
            Due.is("queue of 1 in slot " + (slot + 1), x.queue(1), second[slot]);
        }
        Radiohearth y = Frames.at(0, 12, FAR);
        y.send(0, 2, 1);
        y.slot(3);
        Due.is("a relayed wish", y.queue(1), 1);
        y.slot(1);
        Due.is("is spoken", y.queue(1), 0);
    }

    // ---- taking

    private static void toItOrToAll() {
        Due.by("takes it, if it is to it or to all");
        Radiohearth x = Frames.friends(0, 5, FAR);
        x.move(2, 10);
        x.send(0, 1, 1);
        x.slot(1);
        Due.is("data to another one are understood", x.frame(2), Frames.frame(Frames.DATA, 0, 1, 0, 1, 1, 1));
        Due.is("not taken", x.queue(2) + x.arrivals(2), 0);
        x.slot(1);
        Due.is("nor answered", Frames.deeds(x), "usu");
        Due.thrown("nor a way", Due.NONE, () -> x.wayOver(2, 0));
        Radiohearth y = Frames.at(0, 5, 10);
        y.send(0, 1, 1);
        y.slot(2);
        Due.is("a way to another one", y.frame(2) >> 18 & 7, 0);
        Due.thrown("is not taken", Due.NONE, () -> y.wayOver(2, 1));
    }

    private static void valueOfAnAnswer() {
        Due.by("with its origin, goal and number, and the value 0 for data, 1 for a way");
        Radiohearth x = Frames.at(0, 12, 24);
        x.send(0, 2, 255);
        x.slot(6);
        Due.is("of a way", x.frame(2), Frames.frame(Frames.ANSWER, 1, 2, 2, 0, 0, 1));
        x.slot(2);
        Due.is("of a way with the value 1", x.frame(1), Frames.frame(Frames.ANSWER, 0, 1, 2, 0, 0, 1));
        x.slot(2);
        Due.is("of data", x.frame(0), Frames.frame(Frames.ANSWER, 1, 0, 0, 2, 0, 0));
        x.slot(2);
        Due.is("of data at the goal", x.frame(1), Frames.frame(Frames.ANSWER, 2, 1, 0, 2, 0, 0));
    }

    private static void dataTakenAlready() {
        Due.by("Data: it owes an answer; if it has not taken them already: data have arrived");
        Radiohearth x = Frames.friends(0, 5);
        x.send(0, 1, 1);
        x.slot(1);
        x.move(0, FAR);
        x.slot(1);
        Due.is("the answer is missed", x.tries(0) * 10 + x.queue(0), 11);
        x.move(0, 0);
        x.slot(1);
        Due.is("the same data again", x.frame(1), Frames.frame(Frames.DATA, 0, 1, 0, 1, 1, 1));
        Due.is("not twice", x.arrivals(1) * 10 + x.queue(1), 20);
        Due.is("the first time counts", x.arrivedIn(1), 6);
        x.slot(1);
        Due.is("answered again", x.frame(0), Frames.frame(Frames.ANSWER, 1, 0, 0, 1, 1, 0));
        Due.is("done", x.tries(0) + x.queue(0), 0);
        Due.is("sound", x.isSound(), true);
        Radiohearth y = row();
        y.move(2, 45);
        y.send(0, 2, 1);
        y.slot(1);
        y.move(0, FAR);
        y.slot(1);
        y.move(0, 0);
        Due.is("queued by the relay", y.queue(1), 1);
        y.slot(20);
        Due.is("once", y.queue(0) * 10 + y.queue(1), 1);
    }

    private static void wayTakenAlready() {
        Due.by("and a way: if it has not taken them already");
        Radiohearth x = Frames.at(0, 12, 24);
        x.send(0, 2, 9);
        x.slot(5);
        Due.is("the relay has the way to pass on", x.queue(1), 1);
        x.move(2, 45);
        x.move(0, 28);
        x.slot(1);
        x.move(2, 24);
        Due.is("its answer is missed", x.tries(2) * 10 + x.queue(2), 11);
        x.slot(2);
        Due.is("the goal has spoken it again", x.queue(1) * 10 + x.queue(2), 11);
        x.slot(4);
        Due.is("it is answered, and queued once", x.queue(1) * 10 + x.queue(2), 10);
    }

    // The station 0 has a way to 2 with 1 hop from a wish; then a way of 2 comes over 3.
    private static void wayOverridesFewerHops() {
        Due.by("by a way, it has a way to the origin of this, .. with 1 more than the value as hops");
        Radiohearth x = Frames.at(12, 40, 12, 28, FAR);
        x.move(3, 44);
        x.move(1, 28);
        x.send(2, 4, 1);
        x.slot(20);
        x.slot(20);
        Due.is("by the wish", way(x, 0, 2), 21);
        x.move(1, 0);
        x.move(3, 24);
        x.move(2, 36);
        x.send(1, 2, 1);
        x.slot(20);
        Due.is("by the way", way(x, 0, 2), 32);
        Due.is("by the way, next to it", way(x, 3, 2), 21);
        Due.is("by the way, at its goal", way(x, 1, 2), 3);
        Due.is("by the wish, at its goal", way(x, 2, 1), 33);
    }

    private static void wishKeepsFewerHopsOrAsMany() {
        Due.by("it has a way to the origin, as by a way, unless it has one with fewer hops or as many");
        Radiohearth x = Frames.at(0, 12, 45, 24, FAR);
        x.send(0, 4, 1);
        x.slot(12);
        Due.is("none ahead", way(x, 3, 0), 12);
        x.move(1, 45);
        x.move(2, 12);
        x.slot(4);
        Due.is("the wish comes over 2", x.frame(3), Frames.wish(2, 0, 4, 1, 1));
        Due.is("as many: it stays", way(x, 3, 0), 12);
        x.slot(8);
        x.move(3, 5);
        x.slot(1);
        Due.is("the wish comes from 0", x.frame(3), Frames.wish(0, 0, 4, 2, 0));
        Due.is("fewer: it is the new one", way(x, 3, 0), 1);
        x.slot(12);
        x.move(3, 24);
        x.send(0, 4, 2);
        x.slot(3);
        Due.is("the wish comes over 2 again", x.frame(3), Frames.wish(2, 0, 4, 3, 1));
        Due.is("more: the old one stays", way(x, 3, 0), 1);
    }

    private static void notItsOwnOrigin() {
        Due.by("A wish, if it is not its own origin");
        Radiohearth x = Frames.at(0, 12, FAR);
        x.send(0, 2, 1);
        x.slot(4);
        Due.is("its own wish comes back", x.frame(0), Frames.wish(1, 0, 2, 0, 1));
        Due.is("not queued", x.queue(0), 1);
        Due.is("no wait", x.waitOf(0), 0);
        x.slot(6);
        Due.is("not spoken", x.spoken(0), 1);
    }

    private static void wishTakenAlready() {
        Due.by("and has not taken it already");
        Radiohearth x = Frames.at(0, 5);
        x.addStation(10, 2, 7);
        x.addStation(FAR, 2, 1);
        x.send(0, 3, 1);
        x.slot(1);
        Due.is("waits", x.waitOf(1) * 10 + x.waitOf(2), 20);
        x.slot(1);
        Due.is("the wish again", x.frame(1), Frames.wish(2, 0, 3, 0, 1));
        Due.is("queued once", x.queue(1), 1);
        x.slot(2);
        Due.is("and again", x.frame(2), Frames.wish(1, 0, 3, 0, 1));
        Due.is("no more", x.queue(1) + x.queue(2), 0);
        x.slot(8);
        Due.is("spoken once by each", x.spoken(0) + "" + x.spoken(1) + x.spoken(2), "111");
    }

    private static void numberOfTheWish() {
        Due.by("it puts a way at the end of its queue, with itself as origin, .. the number of the wish, the value 0");
        Radiohearth x = Frames.at(0, FAR);
        x.send(0, 1, 1);
        x.slot(12);
        x.move(1, 5);
        x.slot(1);
        Due.is("the second wish", x.frame(1), Frames.wish(0, 0, 1, 1, 0));
        Due.is("a way", x.queue(1), 1);
        Due.is("no wait at the goal", x.waitOf(1), 0);
        x.slot(1);
        Due.is("the way", x.frame(0), Frames.frame(Frames.WAY, 1, 0, 1, 0, 1, 0));
    }

    private static void waitIfTheWaitIsNone() {
        Due.by("its wait becomes its random number modulo 4, if the wait is 0");
        Radiohearth x = Frames.at(0, 12, 24, FAR);
        x.send(0, 3, 1);
        x.slot(1);
        Due.is("drawn", x.waitOf(1), 2);
        x.send(2, 3, 1);
        x.slot(1);
        Due.is("another wish", x.frame(1), Frames.wish(2, 2, 3, 0, 0));
        Due.is("the wait goes on", x.waitOf(1) * 10 + x.queue(1), 12);
        x.slot(2);
        Due.is("the first wish", x.frame(0), Frames.wish(1, 0, 3, 0, 1));
        x.slot(1);
        Due.is("the second wish", x.frame(0), Frames.wish(1, 2, 3, 0, 1));
        x.slot(8);
        Due.is("the second number is drawn now", x.waitOf(1), 2);
        x.slot(12);
    }

    private static void endOfTheQueueOfARelay() {
        Due.by("otherwise go to the end of its queue");
        Radiohearth x = row();
        x.move(2, 45);
        x.send(1, 2, 50);
        x.slot(2);
        x.send(0, 2, 60);
        x.slot(3);
        Due.is("behind its own", x.queue(1), 2);
        x.slot(1);
        x.move(2, 24);
        x.slot(20);
        Due.is("all have arrived", fates(x, 3), "aaa");
        Due.is("in this order", x.arrivalAt(2, 1) * 100 + x.arrivalAt(2, 2), 5060);
    }

    // In slot 6, the relay takes a wish of 3, in slot 7 a way for 0; the wish goes on ahead of the way.
    private static void wayAtTheEndOfTheQueue() {
        Due.by("the way goes to the end of its queue");
        Radiohearth x = Frames.at(0, 12, 24, 36, FAR);
        x.send(0, 2, 1);
        x.slot(2);
        x.send(3, 4, 1);
        x.slot(4);
        Due.is("a wish of 3 at the relay", x.frame(1), Frames.wish(2, 3, 4, 0, 1));
        x.slot(1);
        Due.is("then a way of 2", x.frame(1), Frames.frame(Frames.WAY, 2, 1, 2, 0, 0, 0));
        Due.is("both", x.queue(1), 2);
        x.slot(3);
        Due.is("the wish goes first", x.frame(0), Frames.wish(1, 3, 4, 0, 2));
        Due.is("the way stays", x.queue(1), 1);
    }

    private static void dataKeepTheirValue() {
        Due.by("data .. otherwise go to the end of its queue");
        Radiohearth x = row();
        x.send(0, 2, 255);
        x.slot(3);
        Due.is("as they were, but from whom and to whom", x.frame(2), Frames.frame(Frames.DATA, 1, 2, 0, 2, 1, 255));
        Due.is("arrived", x.arrivalAt(2, 1), 255);
    }

    private static void valueGrowsByOne() {
        Due.by("goes to the end of its queue, with 1 more as its value");
        Radiohearth x = new Radiohearth();
        for (int i = 0; i < 6; i++) {
            x.addStation(12 * i, 2, 999);
        }
        x.send(0, 5, 255);
        x.slot(20);
        x.slot(20);
        Due.is("arrived", x.fate(0), 'a');
        Due.is("value", x.arrivalAt(5, 0), 255);
        for (int i = 1; i < 6; i++) {
            Due.is("hops back from " + i, way(x, i, 0), 10 * (i - 1) + i);
            Due.is("hops from " + (i - 1), way(x, i - 1, 5), 10 * i + 6 - i);
        }
        Due.is("as by flood", x.wayHops(0, 5), x.hopsByFlood(0, 5));
    }

    // ---- no answer

    private static void triesAndWaits() {
        Due.by("its tries increase by 1; .. its wait becomes its random number modulo 2 to the power of its tries");
        dueTries(1, new int[] {0, 2, 1, 11});
        dueTries(3, new int[] {1, 3, 5, 8});
        dueTries(999, new int[] {0, 0, 7, 14});
    }

    private static void dueTries(int seed, int[] waits) {
        Radiohearth x = new Radiohearth();
        x.addStation(0, 2, seed);
        x.addStation(5, 2, 1);
        x.send(0, 1, 0);
        x.slot(5);
        x.move(1, FAR);
        x.send(0, 1, 1);
        for (int i = 0; i < 5; i++) {
            x.slot(1);
            Due.is("tries when it speaks", x.tries(0) + "" + x.waitOf(0) + x.heard(0), i + "0s");
            x.slot(1);
            if (i < 4) {
                Due.is("tries of the seed " + seed, x.tries(0), i + 1);
                Due.is("wait of the seed " + seed, x.waitOf(0), waits[i]);
                Due.is("queue", x.queue(0), 1);
                Frames.pass(x, waits[i]);
            }
        }
        Due.is("given up", x.tries(0) + "" + x.waitOf(0) + x.queue(0) + x.fate(1), "000l");
    }

    private static void fiveTries() {
        Due.by("If they are 5, the frame is given up, its tries are 0");
        Radiohearth x = Frames.friends(0, 5);
        x.move(1, FAR);
        x.send(0, 1, 1);
        Due.is("deeds", Frames.deedsOf(x, 0, 23), "sqsqqqsqqsqqqqqqqqqqqqs");
        Due.is("four", x.tries(0) + "" + x.queue(0) + x.fate(1), "41-");
        x.slot(1);
        Due.is("five", x.tries(0) + "" + x.queue(0) + x.fate(1), "00l");
        Due.is("no wait", x.waitOf(0), 0);
        Radiohearth y = Frames.friends(0, 5);
        y.move(1, FAR);
        y.send(0, 1, 1);
        y.slot(20);
        y.slot(2);
        y.move(1, 5);
        y.slot(2);
        Due.is("answered the fifth time", y.tries(0) + "" + y.queue(0) + y.fate(1), "00a");
        Due.is("the way stands", way(y, 0, 1), 11);
    }

    // The seed 999 draws 11484, 23652, 4527, 12734 in the first tries, and 4107, 762 in the next ones.
    private static void noNumberIsDrawnAtFiveTries() {
        Due.by("If they are 5, ..; otherwise, its wait becomes its random number");
        Radiohearth x = new Radiohearth();
        x.addStation(0, 2, 999);
        x.addStation(5, 2, 1);
        x.send(0, 1, 0);
        x.slot(5);
        x.move(1, FAR);
        x.send(0, 1, 1);
        x.slot(20);
        x.slot(11);
        Due.is("given up", x.fate(1), 'l');
        x.move(1, 5);
        x.send(0, 1, 2);
        x.slot(3);
        x.move(1, FAR);
        x.slot(2);
        Due.is("the fifth number", x.tries(0) * 10 + x.waitOf(0), 11);
        x.slot(3);
        Due.is("the sixth number", x.tries(0) * 10 + x.waitOf(0), 22);
    }

    // The station 0 has ways to 1 and 2 over 1, and to 3 over 3.
    private static void waysOverThatOneAreGone() {
        Due.by("and all its ways over whom it was spoken to are gone");
        Radiohearth x = Frames.at(12, 24, 36, 0, FAR);
        x.send(0, 2, 1);
        x.slot(20);
        x.send(1, 4, 1);
        x.slot(5);
        x.send(3, 4, 1);
        x.slot(5);
        Due.is("ways ahead", way(x, 0, 1) + " " + way(x, 0, 2) + " " + way(x, 0, 3), "11 12 31");
        x.move(1, 50);
        x.move(2, 50);
        x.move(3, 13);
        x.send(0, 2, 7);
        for (int i = 0; i < 60 && x.fate(3) == '-'; i++) {
            Due.is("it stands in slot " + i, way(x, 0, 2), 12);
            x.slot(1);
        }
        Due.is("lost", x.fate(3), 'l');
        Due.thrown("way to 1", Due.NONE, () -> x.wayOver(0, 1));
        Due.thrown("way to 2", Due.NONE, () -> x.wayHops(0, 2));
        Due.is("way over another one", way(x, 0, 3), 31);
        Due.is("of others", way(x, 3, 0), 1);
    }

    private static void triesAreNoneBehindAnAnswer() {
        Due.by("this leaves the queue, and the tries are 0");
        Radiohearth x = Frames.friends(0, 5);
        x.move(1, FAR);
        x.send(0, 1, 1);
        x.slot(3);
        x.slot(3);
        Due.is("two", x.tries(0), 2);
        x.move(1, 5);
        x.slot(2);
        Due.is("none", x.tries(0) + "" + x.queue(0) + x.fate(1), "00a");
        x.move(1, FAR);
        x.send(0, 1, 1);
        x.slot(2);
        Due.is("from 1 on", x.tries(0), 1);
    }

    private static void wishesNeedNoAnswer() {
        Due.by("each station that spoke, in the slot ahead, a frame that must be answered");
        Radiohearth x = Frames.at(0, FAR);
        x.send(0, 1, 1);
        x.slot(20);
        Due.is("no tries for wishes", x.tries(0) * 10 + x.waitOf(0), 0);
        Radiohearth y = Frames.at(0, 5);
        y.send(0, 1, 1);
        y.slot(4);
        y.move(0, FAR);
        y.slot(4);
        Due.is("none for answers", y.tries(1) + y.waitOf(1), 0);
    }

    // The way has the number 1 of the wish, as the second message of the same station has.
    private static void wayGivenUpLosesNoMessage() {
        Due.by("A frame that is given up leaves the queue; if it is data, its message is lost");
        Radiohearth x = wayWithoutAWay();
        x.send(1, 0, 4);
        x.slot(20);
        x.slot(16);
        Due.is("a way without a way, and data", x.queue(1) * 10 + x.wishes(1), 23);
        x.slot(1);
        Due.is("the way is given up", x.queue(1) * 10 + x.wishes(1), 13);
        Due.is("no message", x.fate(4), '-');
        x.slot(1);
        Due.is("then it wishes for the data", x.wishes(1), 4);
    }
}
