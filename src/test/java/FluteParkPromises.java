/** For each promise of the document: ordinary inputs, its edges and wrong inputs, with answers worked out by hand. */
public final class FluteParkPromises {
    private static final int NONE = -1;
    private static final int UNKNOWN = -2;
    private static final int OUTSIDE = -3;
    private static final int NOT = -4;
    private static final int FULL = -5;
    private static final int LEAST = Integer.MIN_VALUE;
    private static final int GREATEST = Integer.MAX_VALUE;

    /** Sounds of its flute: 22 26 22 / 26 30 26 / 22 26 22. */
    private static final String FOUR_KINDS = "park 3 3;fall 4;flute 4 30;walk 0 8;"
            + "plain 0 21 2 5;brass 4 25 0 3;choir 8 15 0 11;drum 2 10 6 7";

    private static int wrong = 0;

    private static void due(String call, long got, long want) {
        if (got != want) {
            wrong++;
            System.out.println(call + " answered " + got + ", due is " + want);
        }
    }

    private static void write(FlutePark x, String text) {
        for (int i = 0; i < text.length(); i += 8) {
            int n = Math.min(8, text.length() - i);
            long bytes = 0;
            for (int b = 0; b < n; b++) {
                bytes |= (long) text.charAt(i + b) << 8 * b;
            }
            due("write of " + text, x.write(bytes, n), i + n);
        }
    }

    /** Tells a text that has no fault. */
    private static FlutePark tell(FlutePark x, String text) {
        x.erase();
        write(x, text);
        due("fault of " + text, x.fault(), NONE);
        due("park of " + text, x.park(), text.split(";").length);
        return x;
    }

    private static FlutePark told(String text) {
        return tell(new FlutePark(), text);
    }

    private static void dueFault(FlutePark x, String text, int want) {
        x.erase();
        write(x, text);
        due("fault of '" + text + "'", x.fault(), want);
        if (want != NONE) {
            due("park of '" + text + "'", x.park(), NOT);
            due("bytes behind park of '" + text + "'", x.count(8), text.length());
        }
    }

    private static void dueFault(String text, int want) {
        dueFault(new FlutePark(), text, want);
    }

    public static void main(String[] args) {
        newObject();
        writing();
        erasing();
        faultsOfWords();
        faultsOfNumbers();
        faultsOfWhatIsTold();
        parks();
        parkBeginsAnew();
        places();
        bands();
        kinds();
        licences();
        sounds();
        noises();
        steps();
        keeps();
        firsts();
        mosts();
        standings();
        sidesOfBrass();
        hedges();
        margins();
        ways();
        longWay();
        winds();
        sightings();
        counts();
        System.out.println(wrong == 0 ? "all answers are as due" : wrong + " answers are not as due");
        if (wrong != 0) {
            System.exit(1);
        }
    }

    // Promise 1
    private static void newObject() {
        FlutePark x = new FlutePark();
        long[] want = {4, 4, 2, 0, 0, 0, NONE, 0, 0};
        for (int what = 0; what < want.length; what++) {
            due("new: count " + what, x.count(what), want[what]);
        }
        for (int place = 0; place < 16; place++) {
            due("new: walk", x.place(place, 0), 0);
            due("new: hedge", x.place(place, 1), 0);
            due("new: bands", x.place(place, 2), 0);
            due("new: flute", x.place(place, 3), 50 - 2 * (place / 4 + place % 4));
        }
        due("new: no place 16", x.place(16, 0), UNKNOWN);
        due("new: back 0", x.back(0), NOT);
        due("new: back 1", x.back(1), NOT);
    }

    // Promise 2
    private static void writing() {
        FlutePark x = new FlutePark();
        for (int n : new int[] {0, 9, -1, LEAST, GREATEST}) {
            due("write n " + n, x.write(0x7374696c6cL, n), OUTSIDE);
        }
        due("nothing written", x.count(8), 0);
        // The bytes behind the n-th are no part of it.
        due("write st", x.write(0xffffffffffff7473L, 2), 2);
        due("write ill", x.write(0x3b3b3b3b3b6c6c69L, 3), 5);
        due("still", x.park(), 1);
        // The eighth byte is the sign's: still as "   still".
        due("write 8", x.write(0x6c6c697473202020L, 8), 8);
        due("write a byte of 255 at the end", x.write(-1L << 56 | 0x20202020202020L, 8), 16);
        due("fault at it", x.fault(), 15);
        x.erase();
        for (int i = 1; i <= 24; i++) {
            due("write", x.write(0x2020202020202020L, 8), 8 * i);
        }
        due("write 7", x.write(0x20202020202020L, 7), 199);
        due("two do not fit", x.write(0, 2), FULL);
        due("still 199", x.count(8), 199);
        due("one does", x.write(' ', 1), 200);
        due("none does", x.write(' ', 1), FULL);
        due("outside ahead of full", x.write(' ', 9), OUTSIDE);
        due("end of blanks", x.fault(), 200);
    }

    // Promise 3
    private static void erasing() {
        FlutePark x = new FlutePark();
        due("erase nothing", x.erase(), 0);
        write(x, "still;x");
        due("erase", x.erase(), 7);
        due("erased", x.count(8), 0);
        due("erase again", x.erase(), 0);
        due("fault of nothing", x.fault(), 0);
        tell(x, "fall 7");
        due("told stays", x.count(2), 7);
        x.erase();
        due("told stays", x.count(2), 7);
    }

    // Promise 4
    private static void faultsOfWords() {
        dueFault("", 0);
        dueFault("   ", 3);
        dueFault("still", NONE);
        dueFault("  still  ", NONE);
        dueFault("still;", 6);
        dueFault("still ; ", 8);
        dueFault(";", 0);
        dueFault(" ;still", 1);
        dueFault("still;;still", 6);
        dueFault("still still", 6);
        dueFault("stillstill", 0);
        dueFault("still0", 5);
        dueFault("still.", 5);
        dueFault("sti ll", 0);
        dueFault("Still", 0);
        dueFault("stilL", 0);
        dueFault("gate 3", 0);
        dueFault("still; gate", 7);
        dueFault("4 4", 0);
        dueFault("stillz", 0);
        dueFault("stilla", 0);
        dueFault("zstill", 0);
        dueFault("fall 1z", 6);
        dueFault("still\0", 5);
        dueFault("still\t", 5);
        dueFault("still\n;still", 5);
        dueFault("\u00ff", 0);
        dueFault("still;\u00f3till", 6);
        dueFault("still`", 5);
        dueFault("{still", 0);
        String twelve = "still;still;still;still;still;still;still;still;still;still;still;still";
        dueFault(twelve, NONE);
        dueFault(twelve + "  ", NONE);
        dueFault(twelve + ";", 71);
        dueFault(twelve + " ;still", 72);
        dueFault(twelve + " x", 72);
    }

    private static void faultsOfNumbers() {
        dueFault("park 4 4", NONE);
        dueFault("park4 4", NONE);
        dueFault("park04 06", NONE);
        dueFault(" park  2  2 ; fall 9 ", NONE);
        dueFault("park 44", 5);
        dueFault("park 4", 6);
        dueFault("park 4  ", 8);
        dueFault("park 4;4", 6);
        dueFault("park", 4);
        dueFault("park fall 3", 5);
        dueFault("park 1 4", 5);
        dueFault("park 7 4", 5);
        dueFault("park 4 1", 7);
        dueFault("park 4 7", 7);
        dueFault("park 6 6", NONE);
        dueFault("park 004 4", 5);
        dueFault("park 4 -4", 7);
        dueFault("park 4 /", 7);
        dueFault("park 4 :", 7);
        dueFault("park 4 4 4", 9);
        dueFault("fall 0", 5);
        dueFault("fall 1", NONE);
        dueFault("fall 9", NONE);
        dueFault("fall 10", 5);
        dueFault("fall x", 5);
        dueFault("fall 3x", 6);
        dueFault("fall 99999999999999999999", 5);
        dueFault("flute 15 99", NONE);
        dueFault("flute 15 00", NONE);
        dueFault("flute 16 1", 6);
        dueFault("flute 0 100", 8);
        dueFault("plain 0 0 0 0", NONE);
        dueFault("brass 15 99 11 11", NONE);
        dueFault("choir 0 1 5 4", 12);
        dueFault("choir 0 1 5 5", NONE);
        for (String kind : new String[] {"plain", "brass", "choir", " drum"}) {
            dueFault(kind + " 0 1 5 4", 12);
            dueFault(kind + " 0 1 0 0 0", 14);
            dueFault(told("drum 0 1 0 0;drum 0 1 0 0;drum 0 1 0 0;drum 0 1 0 0;drum 0 1 0 0;drum 0 1 0 0"),
                    kind + " 0 1 0 0", kind.indexOf(kind.trim()));
        }
        dueFault("drum 16 1 0 0", 5);
        dueFault("drum 0 100 0 0", 7);
        dueFault("drum 0 1 12 12", 9);
        dueFault("drum 0 1 0 12", 11);
        dueFault("drum 0 1 0", 10);
        dueFault("plain 0 1 0;still", 11);
        dueFault("hedge 15", NONE);
        dueFault("hedge 16", 6);
        dueFault("walk 3 3", NONE);
        dueFault("walk 4 3", 7);
        dueFault("walk 0 15", NONE);
        dueFault("walk 0 16", 7);
        dueFault("walk 16 16", 5);
    }

    private static void faultsOfWhatIsTold() {
        dueFault("worth 0 1", 6);
        dueFault("worth", 5);
        dueFault("side 0 0", 5);
        dueFault("drum 0 1 0 0;worth 0 99", NONE);
        dueFault("drum 0 1 0 0;worth 0 100", 21);
        dueFault("drum 0 1 0 0;worth 1 1", 19);
        dueFault("drum 0 1 0 0;side 0 3", NONE);
        dueFault("drum 0 1 0 0;side 0 4", 20);
        dueFault("drum 0 1 0 0;side 1 0", 18);
        dueFault("drum 0 1 0 0;still;side 0 0", 24);
        dueFault("drum 0 1 0 0;park 4 4;side 0 0", 27);
        dueFault("hedge 3;hedge 3", 14);
        dueFault("hedge 3;park 4 4;hedge 3", NONE);
        dueFault("park 2 2;walk 0 4", 16);
        dueFault("park 2 2;flute 4 1", 15);
        dueFault("park 6 6;walk 0 35;flute 35 1;hedge 35", NONE);
        dueFault("flute 15 9;park 2 2", NONE);
        FlutePark x = told("park 2 3;hedge 5;drum 0 1 0 0;drum 0 1 0 0;drum 0 1 0 0;drum 0 1 0 0;drum 0 1 0 0");
        dueFault(x, "hedge 5", 6);
        dueFault(x, "hedge 6", 6);
        dueFault(x, "worth 4 0", NONE);
        dueFault(x, "worth 5 0", 6);
        dueFault(x, "brass 0 1 0 0;worth 5 0;brass 0 1 0 0", 24);
        dueFault(x, "brass 0 1 0 0;still;brass 0 1 0 0", NONE);
        due("fault changes nothing", x.count(3), 5);
        due("fault changes no hedge", x.place(0, 1), 0);
    }

    // Promise 5
    private static void parks() {
        FlutePark x = told("park 3 2;fall 3;flute 5 40;plain 1 30 2 4;hedge 0;walk 1 2");
        due("text is empty", x.count(8), 0);
        due("park without a text", x.park(), NOT);
        tell(x, "walk 4 5;hedge 1;drum 3 20 0 11;worth 0 7;side 1 2");
        due("columns stay", x.count(0), 3);
        due("rows stay", x.count(1), 2);
        due("fall stays", x.count(2), 3);
        due("flute stays", x.place(5, 3), 40);
        due("bands are more", x.count(3), 2);
        int[] walk = {0, 1, 1, 0, 1, 1};
        int[] hedges = {1, 1, 0, 0, 0, 0};
        for (int place = 0; place < 6; place++) {
            due("walk grows", x.place(place, 0), walk[place]);
            due("hedges grow", x.place(place, 1), hedges[place]);
        }
        due("worth", x.band(0, 5), 7);
        due("side", x.band(1, 6), 2);
        x.licence(0, 0);
        write(x, "fall 5;hedge 1");
        due("a fault behind a line", x.park(), NOT);
        due("nothing is done", x.count(2), 3);
        due("licences stay", x.count(4), 2);
        due("the text stays", x.erase(), 14);
        tell(x, "still");
        due("no bands", x.count(3), 0);
        due("still leaves hedges", x.place(1, 1), 1);
        due("still leaves walk", x.place(1, 0), 1);
        tell(x, "drum 3 20 0 11;worth 0 9;side 0 3;park 3 2;brass 0 1 0 0");
        due("a park has no walk", x.place(1, 0), 0);
        due("a park has no hedge", x.place(1, 1), 0);
        due("a park's fall", x.count(2), 2);
        due("a park's flute", x.place(0, 3), 50);
        due("a new band's worth", x.band(0, 5), 1);
        due("a new band's side", x.band(0, 6), 0);
    }

    private static void parkBeginsAnew() {
        FlutePark x = told("walk 6 7;walk 5 5;plain 0 1 0 11;drum 0 1 0 11");
        due("she begins at the least of walk", x.count(6), 5);
        x.step(6);
        x.step(7);
        x.licence(0, 0);
        x.keep(0);
        x.keep(1);
        x.seen(0, 0, 1);
        tell(x, "fall 3");
        due("hour 0", x.count(5), 0);
        due("all licences", x.count(4), 3);
        due("she is at the least", x.count(6), 5);
        due("nothing seen", x.count(7), 0);
        due("nothing kept at 0", x.back(0), NOT);
        due("nothing kept at 1", x.back(1), NOT);
        tell(x, "park 2 2");
        due("she is nowhere", x.count(6), NONE);
        tell(x, "walk 0 0");
        due("she is at 0", x.count(6), 0);
    }

    // Promise 6
    private static void places() {
        FlutePark x = told(FOUR_KINDS + ";hedge 2;drum 0 1 1 1");
        int[] flute = {22, 26, 22, 26, 30, 26, 22, 26, 22};
        int[] bands = {17, 0, 8, 0, 2, 0, 0, 0, 4};
        for (int place = 0; place < 9; place++) {
            due("walk at " + place, x.place(place, 0), 1);
            due("hedge at " + place, x.place(place, 1), place == 2 ? 1 : 0);
            due("bands at " + place, x.place(place, 2), bands[place]);
            due("flute at " + place, x.place(place, 3), flute[place]);
        }
        x.licence(0, 0);
        due("bands without a licence are there too", x.place(0, 2), 17);
        for (int place : new int[] {-1, 9, LEAST, GREATEST}) {
            due("no such place", x.place(place, 0), UNKNOWN);
            due("unknown ahead of outside", x.place(place, 4), UNKNOWN);
        }
        for (int what : new int[] {-1, 4, LEAST, GREATEST}) {
            due("no such what", x.place(0, what), OUTSIDE);
        }
        due("the flute's sound is 0 at least", told("park 6 6;fall 9;flute 0 50").place(35, 3), 0);
        due("flute by a hedge", told("flute 3 9;hedge 3").place(3, 3), 9);
    }

    // Promise 7
    private static void bands() {
        FlutePark x = told("plain 1 2 3 4;brass 5 6 7 8;choir 9 10 0 11;drum 15 99 11 11;worth 1 0;worth 3 99;side 2 3");
        int[][] want = {{0, 1, 2, 3, 4, 1, 0, 1}, {1, 5, 6, 7, 8, 0, 0, 1}, {2, 9, 10, 0, 11, 1, 3, 1},
            {3, 15, 99, 11, 11, 99, 0, 1}};
        for (int band = 0; band < 4; band++) {
            for (int what = 0; what < 8; what++) {
                due("band " + band + " what " + what, x.band(band, what), want[band][what]);
            }
        }
        x.licence(2, 0);
        due("no licence", x.band(2, 7), 0);
        for (int band : new int[] {-1, 4, LEAST, GREATEST}) {
            due("no such band", x.band(band, 0), UNKNOWN);
            due("unknown ahead of outside", x.band(band, 8), UNKNOWN);
        }
        for (int what : new int[] {-1, 8, LEAST, GREATEST}) {
            due("no such what", x.band(0, what), OUTSIDE);
        }
    }

    // Promise 8
    private static void kinds() {
        FlutePark x = told("walk 0 0;plain 1 11 0 11;brass 2 12 0 11;choir 3 13 0 11;drum 4 14 0 0;hedge 1;hedge 4");
        int[][] want = {{5, 5, NOT, NOT, NOT}, {0, 0, 0, NOT, NOT}, {13, 13, NOT, 13, NOT}, {14, NOT, NOT, NOT, 14}};
        for (int band = 0; band < 4; band++) {
            for (int kind = 0; kind < 5; kind++) {
                due("band " + band + " as " + kind, x.as(band, kind), want[band][kind]);
            }
        }
        x.licence(0, 0);
        due("as without a licence", x.as(0, 1), 5);
        x.step(0);
        due("choir in an odd hour, taken as plain", x.as(2, 1), 0);
        due("drum beyond its hours, taken as a band", x.as(3, 0), 0);
        for (int kind : new int[] {-1, 5, LEAST, GREATEST}) {
            due("no such kind", x.as(0, kind), OUTSIDE);
        }
        for (int band : new int[] {-1, 4, LEAST, GREATEST}) {
            due("no such band", x.as(band, 5), UNKNOWN);
        }
    }

    // Promise 9
    private static void licences() {
        FlutePark x = told("plain 0 1 0 0;plain 0 2 0 0;plain 0 4 0 0");
        due("all", x.count(4), 7);
        due("take", x.licence(1, 0), 1);
        due("taken", x.count(4), 5);
        due("take again", x.licence(1, 0), 0);
        due("noise without it", x.noise(0, 0), 5);
        due("give", x.licence(1, 1), 0);
        due("give again", x.licence(1, 1), 1);
        due("given", x.count(4), 7);
        for (int is : new int[] {-1, 2, LEAST, GREATEST}) {
            due("no such is", x.licence(0, is), OUTSIDE);
        }
        for (int band : new int[] {-1, 3, LEAST, GREATEST}) {
            due("no such band", x.licence(band, 2), UNKNOWN);
        }
        due("unchanged", x.count(4), 7);
    }

    private static void dueSounds(FlutePark x, int band, int hour, int... want) {
        for (int place = 0; place < want.length; place++) {
            due("sound of " + band + " at " + place + " in " + hour, x.sound(band, place, hour), want[place]);
        }
    }

    // Promise 10
    private static void sounds() {
        FlutePark x = told(FOUR_KINDS);
        int[] nothing = new int[9];
        dueSounds(x, 0, 1, nothing);
        dueSounds(x, 0, 2, 21, 17, 13, 17, 13, 9, 13, 9, 5);
        dueSounds(x, 0, 5, 21, 17, 13, 17, 13, 9, 13, 9, 5);
        dueSounds(x, 0, 6, nothing);
        dueSounds(x, 1, 0, 17, 21, 17, 0, 0, 0, 0, 0, 0);
        dueSounds(x, 1, 4, nothing);
        dueSounds(x, 2, 0, 0, 3, 7, 3, 7, 11, 7, 11, 15);
        dueSounds(x, 2, 1, nothing);
        dueSounds(x, 2, 10, 0, 3, 7, 3, 7, 11, 7, 11, 15);
        dueSounds(x, 2, 11, nothing);
        dueSounds(x, 3, 6, 2, 6, 10, 0, 2, 6, 0, 0, 2);
        dueSounds(x, 3, 8, nothing);
        x.licence(0, 0);
        due("sound without a licence", x.sound(0, 0, 2), 21);
        tell(x, "side 1 1");
        dueSounds(x, 1, 0, 0, 0, 17, 0, 0, 21, 0, 0, 17);
        tell(x, "side 1 2");
        dueSounds(x, 1, 0, 0, 0, 0, 0, 0, 0, 17, 21, 17);
        tell(x, "side 1 3;side 0 1");
        dueSounds(x, 1, 0, 17, 0, 0, 21, 0, 0, 17, 0, 0);
        dueSounds(x, 0, 2, 21, 17, 13, 17, 13, 9, 13, 9, 5);
        tell(x, "hedge 0;hedge 2;hedge 4;hedge 8");
        dueSounds(x, 0, 2, 10, 8, 6, 8, 6, 4, 6, 4, 2);
        dueSounds(x, 1, 0, 8, 0, 0, 10, 0, 0, 8, 0, 0);
        dueSounds(x, 2, 0, 0, 1, 3, 1, 3, 5, 3, 5, 7);
        dueSounds(x, 3, 6, 2, 6, 10, 0, 2, 6, 0, 0, 2);
        for (int bad : new int[] {-1, 9, LEAST, GREATEST}) {
            due("no such band", x.sound(bad, 0, 0), UNKNOWN);
            due("no such place", x.sound(0, bad, 12), UNKNOWN);
        }
        for (int hour : new int[] {-1, 12, LEAST, GREATEST}) {
            due("no such hour", x.sound(0, 0, hour), OUTSIDE);
        }
    }

    // Promise 11
    private static void noises() {
        FlutePark x = told(FOUR_KINDS);
        int[] inHour2 = {38, 41, 37, 20, 20, 20, 20, 20, 20};
        for (int place = 0; place < 9; place++) {
            due("noise at " + place, x.noise(place, 2), inHour2[place]);
        }
        due("noise of the loud", told("plain 0 99 0 0;drum 0 99 0 0;choir 0 99 0 0;plain 0 99 0 0;plain 0 99 0 0;"
                + "plain 0 99 0 0").noise(0, 0), 594);
        x.licence(1, 0);
        due("noise without brass", x.noise(1, 2), 20);
        due("noise in hour 11", x.noise(8, 11), 0);
        for (int bad : new int[] {-1, 12, LEAST, GREATEST}) {
            due("no such place", x.noise(bad, bad), UNKNOWN);
            due("no such hour", x.noise(0, bad), OUTSIDE);
        }
    }

    // Promise 12
    private static void steps() {
        FlutePark x = told("park 3 3;walk 2 4;walk 7 7;flute 4 30;plain 3 24 1 2;plain 3 4 2 2;fall 1");
        due("she is at 2", x.count(6), 2);
        due("3 is in the row behind", x.step(3), NOT);
        due("5 is not of walk", x.step(5), NOT);
        due("4 is two off", x.step(4), NOT);
        for (int place : new int[] {-1, 9, LEAST, GREATEST}) {
            due("no such place", x.step(place), UNKNOWN);
        }
        due("hour 0", x.count(5), 0);
        due("she stays", x.step(2), 1);
        due("hour 1", x.count(5), 1);
        tell(x, "walk 0 8");
        due("heard at 3: 29 above 24", x.step(3), 1);
        due("heard at 3: 29 above 28", x.step(3), 1);
        tell(x, "worth 0 1;plain 3 1 2 2");
        x.step(0);
        due("29 is not above 29", x.step(3), 0);
        due("she is there all the same", x.count(6), 3);
        due("hour 2", x.count(5), 2);
        for (int i = 0; i < 9; i++) {
            due("quiet hours", x.step(i % 2 == 0 ? 4 : 3), 1);
        }
        due("hour 11", x.count(5), 11);
        due("hour 0 is behind 11", x.step(7), 1);
        due("hour 0", x.count(5), 0);
        due("nowhere", told("plain 0 1 0 0").step(0), NOT);
        due("nowhere, no such place", new FlutePark().step(16), UNKNOWN);
    }

    // Promises 13 and 14
    private static void keeps() {
        FlutePark x = told("walk 0 15;plain 0 1 0 0;plain 0 1 0 0");
        x.step(1);
        x.step(2);
        x.licence(0, 0);
        due("keep 1", x.keep(1), 2);
        due("nothing at 0", x.back(0), NOT);
        x.step(6);
        x.licence(0, 1);
        x.licence(1, 0);
        due("keep 0", x.keep(0), 3);
        x.seen(0, 0, 1);
        x.step(7);
        due("back 1", x.back(1), 2);
        due("place 2", x.count(6), 2);
        due("hour 2", x.count(5), 2);
        due("licences 2", x.count(4), 2);
        due("seen stays", x.count(7), 1);
        due("back 0", x.back(0), 3);
        due("place 6", x.count(6), 6);
        due("licences 1", x.count(4), 1);
        due("back 1 again", x.back(1), 2);
        due("keep over", x.keep(0), 2);
        due("back over", x.back(0), 2);
        for (int k : new int[] {-1, 2, LEAST, GREATEST}) {
            due("keep no such", x.keep(k), UNKNOWN);
            due("back no such", x.back(k), UNKNOWN);
        }
        write(x, "gate");
        x.park();
        due("a text with a fault forgets nothing", x.back(1), 2);
        FlutePark y = new FlutePark();
        due("keep nowhere", y.keep(0), 0);
        due("back nowhere", y.back(0), 0);
        due("nowhere", y.count(6), NONE);
    }

    // Promise 15
    private static void firsts() {
        FlutePark x = told(FOUR_KINDS);
        due("first hour", x.first(0), 0);
        due("first place", x.first(1), 2);
        due("first band", x.first(2), 1);
        x.step(0);
        x.step(0);
        due("the first hour is not from now on", x.first(0), 0);
        x.licence(2, 0);
        due("without choir: hour", x.first(0), 2);
        due("without choir: place", x.first(1), 0);
        due("without choir: band", x.first(2), 0);
        x.licence(1, 0);
        for (int what = 0; what < 3; what++) {
            due("it holds", x.first(what), NONE);
        }
        for (int what : new int[] {-1, 3, LEAST, GREATEST}) {
            due("no such what", x.first(what), OUTSIDE);
        }
        FlutePark y = told("flute 0 0;walk 3 3;plain 3 9 1 1");
        due("none has sound: hour", y.first(0), 0);
        due("none has sound: place", y.first(1), 3);
        due("none has sound: band", y.first(2), NONE);
        due("a sound of 1 is enough", told("flute 0 0;walk 0 0;drum 0 0 0 0;drum 0 1 0 0").first(2), 1);
        due("of several the least", told("walk 0 0;plain 0 1 0 0;plain 0 30 0 0;drum 0 30 0 0").first(2), 1);
        due("no walk: it holds", told("plain 0 99 0 11").first(0), NONE);
    }

    // Promise 16
    private static void mosts() {
        FlutePark x = told(FOUR_KINDS);
        due("most worth", x.most(0), 3);
        due("most set", x.most(1), 13);
        x.licence(0, 0);
        due("whatever the licences are", x.most(1), 13);
        tell(x, "worth 1 9");
        due("worth of brass and drum", x.most(0), 10);
        due("brass and drum", x.most(1), 10);
        tell(x, "worth 3 0");
        due("worth of brass", x.most(0), 9);
        due("brass: of several the least", x.most(1), 2);
        tell(x, "worth 0 4;worth 2 5;worth 3 0");
        due("a tie", x.most(0), 9);
        due("of several the least", x.most(1), 2);
        tell(x, "flute 4 8");
        due("by none either", x.most(0), NONE);
        due("by none either", x.most(1), NONE);
        for (int what : new int[] {-1, 2, LEAST, GREATEST}) {
            due("no such what", x.most(what), OUTSIDE);
        }
        FlutePark y = told("walk 0 0;plain 0 50 0 0");
        due("as loud as the flute", y.most(0), 0);
        due("no band", y.most(1), 0);
        due("six", told("plain 0 9 0 0;plain 0 9 0 0;plain 0 9 0 0;plain 0 9 0 0;plain 0 9 0 0;plain 0 9 0 0").most(1), 63);
    }

    // Promise 17
    private static void standings() {
        FlutePark x = told(FOUR_KINDS);
        due("stands by brass", x.stands(3), 0);
        x.licence(1, 0);
        due("drum stands", x.stands(3), 255);
        due("plain stands", x.stands(0), 1);
        x.licence(3, 0);
        due("with its licence", x.stands(3), 255);
        due("its licence is not given by that", x.count(4), 5);
        due("its place stays", x.band(3, 1), 2);
        for (int band : new int[] {-1, 4, LEAST, GREATEST}) {
            due("no such band", x.stands(band), UNKNOWN);
        }
        due("no walk: everywhere", told("park 6 6;plain 0 99 0 0").stands(0), (1L << 36) - 1);
        // 18 at 0, where the flute has 10: only hedges (at 1 and 3) make a band at 1, 2 or 3 soft enough.
        FlutePark y = told("park 2 2;flute 0 10;walk 0 0;plain 0 20 0 0;hedge 1;hedge 3");
        due("hedges where it might stand", y.stands(0), 10);
        tell(y, "still;drum 0 20 0 0");
        due("a drum is not softer by hedges", y.stands(0), 0);
    }

    // Promise 18
    private static void sidesOfBrass() {
        FlutePark x = told("park 3 3;fall 4;flute 0 40;walk 0 8;brass 4 35 0 3;side 0 1;plain 8 1 11 11");
        due("sides", x.sides(0), 9);
        x.licence(0, 0);
        due("with its licence", x.sides(0), 9);
        due("its side stays", x.band(0, 6), 1);
        due("no brass", x.sides(1), NOT);
        for (int band : new int[] {-1, 2, LEAST, GREATEST}) {
            due("no such band", x.sides(band), UNKNOWN);
        }
        tell(x, "hedge 4");
        due("by a hedge", x.sides(0), 15);
        tell(x, "plain 0 40 4 4");
        due("another spoils all", x.sides(0), 0);
    }

    // Promise 19
    private static void hedges() {
        FlutePark x = told("park 3 3;fall 4;flute 0 40;walk 0 8;brass 4 35 0 3;side 0 1");
        due("one hedge", x.hedged(0), 1);
        due("at 4", x.hedged(1), 16);
        due("none is there by that", x.place(4, 1), 0);
        tell(x, "hedge 4");
        due("no more", x.hedged(0), 0);
        due("nowhere", x.hedged(1), 0);
        FlutePark y = told("park 2 2;fall 1;flute 0 30;walk 0 0;plain 2 20 0 0;plain 1 20 0 0");
        due("one of two", y.hedged(0), 1);
        due("of several the least", y.hedged(1), 2);
        tell(y, "still;plain 0 10 0 0;plain 1 11 0 0;plain 3 22 0 0;flute 0 31");
        due("the fewest", y.hedged(0), 1);
        due("3, not 0 and 1", y.hedged(1), 8);
        y.licence(2, 0);
        due("without a licence it needs none", y.hedged(0), 0);
        tell(y, "flute 0 21");
        due("all three", y.hedged(0), 3);
        due("at 0, 1, 3", y.hedged(1), 11);
        tell(y, "flute 0 20");
        due("not by all: how many", y.hedged(0), NONE);
        due("not by all: places", y.hedged(1), NONE);
        tell(y, "still;drum 0 20 0 0");
        due("a drum", y.hedged(0), NONE);
        tell(y, "still;hedge 0;plain 0 90 0 0");
        due("hedged already", y.hedged(1), NONE);
        for (int what : new int[] {-1, 2, LEAST, GREATEST}) {
            due("no such what", y.hedged(what), OUTSIDE);
        }
        tell(y, "park 2 2;fall 1;flute 0 31;walk 0 0;plain 3 22 0 0;plain 1 11 0 0;plain 0 10 0 0");
        due("3, not 0 and 1, whatever their order", y.hedged(1), 8);
        tell(y, "park 2 3;fall 1;flute 0 48;walk 0 0;plain 2 20 0 0;plain 1 20 0 0;plain 3 20 0 0");
        due("1, whatever their order", y.hedged(1), 2);
        write(y, "park 3 3;walk 0 0;drum 0 99 0 0");
        y.fault();
        due("the text is not done yet: hedged", y.hedged(1), 2);
        y.licence(2, 0);
        y.fault();
        due("the text is not done yet: stands", y.stands(0), 63);
        due("two bands by one hedge", told("walk 0 0;plain 1 30 0 0;plain 1 30 0 0").hedged(1), 2);
        due("a high place", told("park 6 6;walk 35 35;flute 35 50;plain 35 90 0 0").hedged(1), 1L << 35);
    }

    // Promises 20 and 21
    private static void margins() {
        FlutePark x = told(FOUR_KINDS);
        due("margin", x.margin(), 984);
        int[] prices = {14, 17, 0, 0};
        for (int band = 0; band < 4; band++) {
            due("price of " + band, x.price(band), prices[band]);
        }
        due("licences stay", x.count(4), 15);
        x.licence(1, 0);
        due("margin without brass", x.margin(), 1001);
        due("price of brass, without its licence", x.price(1), 17);
        for (int band : new int[] {-1, 4, LEAST, GREATEST}) {
            due("no such band", x.price(band), UNKNOWN);
        }
        FlutePark y = told("plain 0 99 0 0");
        due("no walk", y.margin(), 1999);
        due("no walk, no price", y.price(0), 0);
        tell(y, "still;walk 15 15");
        due("walk of one, no band", y.margin(), 1038);
        due("the least", told("flute 0 0;walk 0 0;drum 0 99 5 5;drum 0 99 5 5;drum 0 99 5 5;drum 0 99 5 5;"
                + "drum 0 99 5 5;drum 0 99 5 5").margin(), 406);
    }

    // Promise 22
    private static void ways() {
        // Sounds of the flute 50 41 32, of the band 22 31 40 in hours 1 to 5.
        FlutePark x = told("park 3 2;fall 9;flute 0 50;walk 0 2;walk 5 5;plain 2 40 1 5");
        due("here", x.way(0), 0);
        due("next", x.way(1), 1);
        due("when it is quiet", x.way(2), 6);
        due("behind it", x.way(5), 7);
        due("not of walk", x.way(3), NONE);
        for (int place : new int[] {-1, 6, LEAST, GREATEST}) {
            due("no such place", x.way(place), UNKNOWN);
        }
        due("she stays", x.count(6), 0);
        due("the hour stays", x.count(5), 0);
        for (int i = 0; i < 11; i++) {
            x.step(0);
        }
        due("in hour 11", x.way(2), 7);
        x.step(1);
        x.step(2);
        due("not heard now", x.way(2), NONE);
        x.licence(0, 0);
        due("no licence", x.way(0), 2);
        FlutePark y = told("park 2 2;walk 0 0;walk 3 3;plain 3 50 0 11");
        due("not next to", y.way(3), NONE);
        due("heard", y.way(0), 0);
        tell(y, "flute 3 0");
        due("nowhere heard", y.way(0), NONE);
        due("she is nowhere", told("park 2 2").way(0), NOT);
        due("unknown ahead of not", told("park 2 2").way(4), UNKNOWN);
        FlutePark z = told("park 3 3;walk 0 3;walk 5 5");
        due("rows are not next to one another by their ends", z.way(3), 1);
        due("2 to 5", z.way(5), 3);
        tell(z, "park 3 3;walk 2 3");
        due("2 and 3 are not next", z.way(3), NONE);
        due("all the way", told("park 6 6;fall 1;walk 0 35").way(35), 10);
    }

    /** A corridor in which she has to wait for hour 0 again and again: 24 is 99 hours off, 30 is 100. */
    private static void longWay() {
        FlutePark x = told("park 6 6;fall 8;flute 21 88;brass 12 77 1 11;plain 28 55 2 11;side 0 1;"
                + "walk 0 2;walk 8 11;walk 17 21;walk 23 30;walk 32 35");
        due("a round of hours", x.way(1), 12);
        due("behind many rounds", x.way(18), 98);
        due("in 99", x.way(24), 99);
        due("not in 99", x.way(30), NONE);
        x.step(0);
        due("an hour later: in 98", x.way(24), 98);
        due("an hour later: in 99", x.way(30), 99);
    }

    private static void dueWind(FlutePark x, int place, int hour, int p, int above, int below) {
        due("wind above, p " + p, x.wind(place, hour, p, 0), above);
        due("wind below, p " + p, x.wind(place, hour, p, 1), below);
    }

    // Promise 23
    private static void winds() {
        FlutePark x = told("park 2 2;fall 1;flute 0 30;plain 0 10 0 5;drum 0 15 0 5;choir 0 30 6 6");
        x.licence(2, 0);
        dueWind(x, 0, 0, 0, 1, 1);
        dueWind(x, 0, 0, 3, 49, 100);
        dueWind(x, 0, 0, 5, 1, 4);
        dueWind(x, 0, 0, 10, 0, 1);
        dueWind(x, 0, 6, 5, 1, 1);
        x.licence(2, 1);
        dueWind(x, 0, 0, 3, 49, 100);
        dueWind(x, 0, 6, 0, 0, 1);
        tell(x, "still;plain 0 10 0 0;plain 0 5 0 0;flute 0 26");
        dueWind(x, 0, 0, 5, 3, 4);
        dueWind(x, 0, 0, 2, 24, 25);
        dueWind(x, 0, 0, 10, 0, 1);
        tell(x, "flute 0 30");
        dueWind(x, 0, 0, 5, 3, 4);
        tell(x, "flute 0 31");
        dueWind(x, 0, 0, 5, 1, 1);
        tell(x, "still;plain 0 9 0 0;plain 0 9 0 0;plain 0 9 0 0;plain 0 9 0 0;plain 0 9 0 0;plain 0 9 0 0;flute 0 99");
        dueWind(x, 0, 0, 3, 197813, 200000);
        tell(x, "flute 0 60");
        dueWind(x, 0, 0, 3, 117649, 1000000);
        for (int bad : new int[] {-1, 12, LEAST, GREATEST}) {
            due("no such place", x.wind(bad, bad, 5, 0), UNKNOWN);
            due("no such hour", x.wind(0, bad, 5, 0), OUTSIDE);
            due("no such p", x.wind(0, 0, bad, 0), OUTSIDE);
            due("no such part", x.wind(0, 0, 5, bad), OUTSIDE);
        }
        due("p 11", x.wind(0, 0, 11, 0), OUTSIDE);
        due("part 2", x.wind(0, 0, 5, 2), OUTSIDE);
    }

    // Promises 24, 25 and 26
    private static void sightings() {
        FlutePark x = told("park 2 2;fall 1;flute 0 30;plain 0 20 0 5;plain 0 15 0 5;drum 0 40 6 6");
        due("nothing seen: all sets", x.played(0), 8);
        due("nothing seen: none in all", x.played(1), 0);
        due("not heard in hour 0", x.seen(0, 0, 0), 1);
        due("two sets", x.played(0), 2);
        due("0 and 1", x.played(1), 3);
        x.licence(0, 0);
        due("whatever the licences are", x.played(0), 2);
        due("heard in hour 6", x.seen(0, 6, 1), 2);
        due("one set", x.played(0), 1);
        due("0 and 1", x.played(1), 3);
        due("not heard in hour 7", x.seen(0, 7, 0), 3);
        due("no set", x.played(0), 0);
        due("none", x.played(1), NONE);
        due("forget", x.forget(), 3);
        due("forget again", x.forget(), 0);
        due("all sets", x.played(0), 8);
        for (int i = 1; i <= 8; i++) {
            due("seen", x.seen(3, 11, 1), i);
        }
        due("full", x.seen(3, 11, 1), FULL);
        due("eight", x.count(7), 8);
        for (int bad : new int[] {-1, 12, LEAST, GREATEST}) {
            due("no such place", x.seen(bad, bad, bad), UNKNOWN);
            due("no such hour", x.seen(0, bad, 0), OUTSIDE);
            due("no such heard", x.seen(0, 0, bad), OUTSIDE);
            due("no such what", x.played(bad), OUTSIDE);
        }
        due("heard 2", x.seen(0, 0, 2), OUTSIDE);
        due("played 2", x.played(2), OUTSIDE);
        due("all sets", x.played(0), 8);
        x.forget();
        due("at 1 it is 29 to 19 and 14", x.seen(1, 5, 0), 1);
        due("0 and 1", x.played(1), 3);
        due("at 3 it is 28 to 18 and 13", x.seen(3, 5, 0), 2);
        due("two sets", x.played(0), 2);
        tell(x, "drum 1 30 9 9");
        due("at 1 not heard in hour 9", x.seen(1, 9, 0), 1);
        due("the last", x.played(1), 8);
        due("at 0 heard in hour 9", x.seen(0, 9, 1), 2);
        due("by 29 it is", x.played(0), 8);
        x.forget();
        tell(x, "still;plain 0 20 0 5;plain 0 15 0 5;drum 0 40 6 6");
        due("not heard in hour 6", x.seen(0, 6, 0), 1);
        due("those with the drum", x.played(0), 4);
        due("the drum", x.played(1), 4);
    }

    // Promise 27
    private static void counts() {
        FlutePark x = told("park 3 6;fall 7;walk 4 5;plain 0 1 0 0;plain 0 1 0 0;plain 0 1 0 0");
        x.licence(1, 0);
        x.step(5);
        x.step(5);
        x.seen(0, 0, 0);
        write(x, "gates");
        int[] want = {3, 6, 7, 3, 5, 2, 5, 1, 5};
        for (int what = 0; what < 9; what++) {
            due("count " + what, x.count(what), want[what]);
        }
        for (int what : new int[] {-1, 9, LEAST, GREATEST}) {
            due("no such what", x.count(what), OUTSIDE);
        }
    }
}
