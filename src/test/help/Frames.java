/** Frames as the document writes them, and stations to send them. */
final class Frames {
    static final int DATA = 0;
    static final int ANSWER = 1;
    static final int WISH = 2;
    static final int WAY = 3;
    static final int ALL = 7;

    private Frames() {
    }

    /** Stations of power 2 and seed 1 at the places. */
    static Radiohearth at(int... places) {
        Radiohearth x = new Radiohearth();
        for (int place : places) {
            x.addStation(place, 2, 1);
        }
        return x;
    }

    /** The same, where the first one has sent a message to the second one in 5 slots, so that both have ways. */
    static Radiohearth friends(int... places) {
        Radiohearth x = at(places);
        x.send(0, 1, 0);
        x.slot(5);
        return x;
    }

    /** The frame as a number. */
    static int frame(int kind, int from, int to, int origin, int goal, int number, int value) {
        return kind << 24 | from << 21 | to << 18 | origin << 15 | goal << 12 | number << 8 | value;
    }

    static int wish(int from, int origin, int goal, int number, int value) {
        return frame(WISH, from, ALL, origin, goal, number, value);
    }

    /** What all stations did in the last slot. */
    static String deeds(Radiohearth x) {
        StringBuilder text = new StringBuilder();
        for (int i = 0; i < 6; i++) {
            int station = i;
            Object deed = Due.answerOf(() -> x.heard(station));
            if (deed instanceof Character) {
                text.append(deed);
            }
        }
        return text.toString();
    }

    /** What one station did in each of the next slots. */
    static String deedsOf(Radiohearth x, int station, int slots) {
        StringBuilder text = new StringBuilder();
        for (int i = 0; i < slots; i++) {
            x.slot(1);
            text.append(x.heard(station));
        }
        return text.toString();
    }

    static void pass(Radiohearth x, int slots) {
        for (int i = 0; i < slots; i++) {
            x.slot(1);
        }
    }

    /** The samples of a frame for a speaker of power 1, as '+' and '-', in the order in which they are sent. */
    static String spread(int frame) {
        StringBuilder bits = new StringBuilder();
        int check = 65535;
        for (int i = 25; i >= 0; i--) {
            int bit = frame >> i & 1;
            bits.append(bit);
            int high = check >> 15;
            check = check << 1 & 65535;
            check = high == bit ? check : check ^ 4129;
        }
        for (int i = 15; i >= 0; i--) {
            bits.append(check >> i & 1);
        }
        int register = 127;
        int[] word = new int[46];
        for (int i = 0; i < 42; i++) {
            int fresh = (register / 64 + register / 8) % 2;
            register = register * 2 % 128 + fresh;
            word[i + 2] = (bits.charAt(i) - '0' + fresh) % 2;
        }
        char[][] rows = new char[8][11];
        for (int i = 0; i < 88; i++) {
            int at = i / 2 + 2;
            int bit = (word[at] + word[at - 2] + (i % 2 == 0 ? word[at - 1] : 0)) % 2;
            rows[i / 11][i % 11] = bit == 0 ? '+' : '-';
        }
        StringBuilder sent = new StringBuilder();
        for (int column = 0; column < 11; column++) {
            for (int row = 0; row < 8; row++) {
                sent.append(rows[row][column]);
            }
        }
        return sent.toString();
    }

    static int sign(String spread, int index) {
        return spread.charAt(index) == '+' ? 1 : -1;
    }
}
