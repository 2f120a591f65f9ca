/**
 * What texts may tell and how they are read: each bound that the document names, at it and on both sides of it.
 *
 * Above each test stands the sentence of the document that would be broken if it failed.
 */
public final class FluteParkTextEdges {
    private static final int NONE = -1;
    private static final int UNKNOWN = -2;
    private static final int OUTSIDE = -3;
    private static final int NOT = -4;
    private static final int FULL = -5;

    private static final String[] WORDS = {"park", "fall", "flute", "plain", "brass", "choir", "drum", "worth", "side",
        "hedge", "walk", "still"};
    /** For each word a line that can stand behind BAND. */
    private static final String[] LINES = {"park 2 3", "fall 4", "flute 5 6", "plain 1 2 3 4", "brass 1 2 3 4",
        "choir 1 2 3 4", "drum 1 2 3 4", "worth 0 7", "side 0 2", "hedge 3", "walk 4 5", "still"};
    private static final String[] KINDS = {"plain", "brass", "choir", "drum"};
    private static final String BAND = "plain 0 1 0 0;";
    private static final String SIX = BAND + BAND + BAND + BAND + BAND + "plain 0 1 0 0";

    private static int wrong = 0;

    private static void due(String call, long got, long want) {
        if (got != want) {
            wrong++;
            System.out.println(call + " answered " + got + ", due is " + want);
        }
    }

    private static void write(FlutePark x, String text) {
        int before = x.count(8);
        for (int i = 0; i < text.length(); i += 8) {
            int n = Math.min(8, text.length() - i);
            long bytes = 0;
            for (int b = 0; b < n; b++) {
                bytes |= (long) text.charAt(i + b) << 8 * b;
            }
            due("write of '" + text + "'", x.write(bytes, n), before + i + n);
        }
    }

    /** A text without a fault: all its lines are done, and it is empty then. */
    private static FlutePark good(FlutePark x, String text) {
        x.erase();
        write(x, text);
        due("fault of '" + text + "'", x.fault(), NONE);
        due("park of '" + text + "'", x.park(), text.split(";").length);
        due("bytes behind '" + text + "'", x.count(8), 0);
        return x;
    }

    private static FlutePark good(String text) {
        return good(new FlutePark(), text);
    }

    /** A text with a fault: none of it is done, and it stays. */
    private static FlutePark bad(FlutePark x, String text, int place) {
        x.erase();
        write(x, text);
        due("fault of '" + text + "'", x.fault(), place);
        due("park of '" + text + "'", x.park(), NOT);
        due("bytes behind '" + text + "'", x.count(8), text.length());
        due("fault again of '" + text + "'", x.fault(), place);
        return x;
    }

    private static FlutePark bad(String text, int place) {
        return bad(new FlutePark(), text, place);
    }

    private static void goodOrBad(String text, int place) {
        if (place == NONE) {
            good(text);
        } else {
            bad(text, place);
        }
    }

    private static String blanks(int n) {
        return " ".repeat(n);
    }

    public static void main(String[] args) {
        newPark();
        sizes();
        placesRowByRow();
        far();
        walkIsASet();
        fall();
        fluteAtAPlace();
        fluteLoud();
        hedgesAtPlaces();
        hedgeThatIsThere();
        walkFromTo();
        sixBands();
        seventhAtItsWord();
        bandsAsTheyCome();
        bandAtAPlace();
        bandLoud();
        bandHours();
        worth();
        side();
        writeOneToEight();
        writeByteByByte();
        twoHundredBytes();
        wholeTextIsRead();
        erase();
        emptyText();
        oneToTwelveLines();
        behindTheTwelfth();
        onlySemicolonsBetween();
        lettersAreSmall();
        words();
        numbersOfALine();
        digits();
        blanksAheadBetweenBehind();
        noBlanksNeeded();
        everyByteBehindAWord();
        everyByteAheadOfAWord();
        everyByteBetweenWordAndNumber();
        everyByteBetweenNumbers();
        everyByteBehindANumber();
        firstFault();
        endTooSoon();
        suchAsThereAre();
        earlierTextsStay();
        linesInTheirOrder();
        parkAsAtFirst();
        stillNoBands();
        behindTheLines();
        faultLeavesAll();
        System.out.println(wrong == 0 ? "all answers are as due" : wrong + " answers are not as due");
        if (wrong != 0) {
            System.exit(1);
        }
    }

    // "Four columns and rows, no BANDS"; ".. at first"
    private static void newPark() {
        FlutePark x = new FlutePark();
        due("columns at first", x.count(0), 4);
        due("rows at first", x.count(1), 4);
        due("fall at first", x.count(2), 2);
        due("bands at first", x.count(3), 0);
        due("licences at first", x.count(4), 0);
        due("hour at first", x.count(5), 0);
        due("nowhere at first", x.count(6), NONE);
        due("seen at first", x.count(7), 0);
        due("bytes at first", x.count(8), 0);
        for (int place = 0; place < 16; place++) {
            due("walk at first", x.place(place, 0), 0);
            due("hedges at first", x.place(place, 1), 0);
            due("bands at first", x.place(place, 2), 0);
        }
        due("flute at first", x.place(0, 3), 50);
        due("a place ahead of it", x.place(-1, 3), UNKNOWN);
        due("the last place", x.place(15, 3), 38);
        due("a place behind it", x.place(16, 3), UNKNOWN);
        due("no band at first", x.band(0, 0), UNKNOWN);
        due("nothing kept at first", x.back(0), NOT);
        due("nothing kept at first", x.back(1), NOT);
    }

    // "PLACES of w columns (2 .. 6) and h rows (2 .. 6)"
    private static void sizes() {
        for (int columns = 0; columns <= 9; columns++) {
            for (int rows = 0; rows <= 9; rows++) {
                String text = "park " + columns + " " + rows;
                if (columns < 2 || columns > 6) {
                    bad(text, 5);
                } else if (rows < 2 || rows > 6) {
                    bad(text, 7);
                } else {
                    FlutePark x = good(text);
                    due("columns of " + text, x.count(0), columns);
                    due("rows of " + text, x.count(1), rows);
                    due("last place of " + text, x.place(columns * rows - 1, 0), 0);
                    due("behind the last of " + text, x.place(columns * rows, 0), UNKNOWN);
                    good(x, "walk " + (columns * rows - 1) + " " + (columns * rows - 1));
                    bad(x, "walk " + columns * rows + " " + columns * rows, 5);
                }
            }
        }
        good("park 02 06");
        good("park 06 02");
        bad("park 07 02", 5);
        bad("park 02 07", 8);
        bad("park 12 4", 5);
        bad("park 4 26", 7);
        bad("park 99 4", 5);
        bad("park 4 99", 7);
    }

    // "from 0 on, row by row"
    private static void placesRowByRow() {
        FlutePark x = good("park 2 6;fall 1;flute 0 50");
        due("the end of a row", x.place(1, 3), 49);
        due("the next row begins", x.place(2, 3), 49);
        due("the last place", x.place(11, 3), 44);
        good(x, "park 6 2;fall 1;flute 0 50");
        due("the end of a row", x.place(5, 3), 45);
        due("the next row begins", x.place(6, 3), 49);
        due("the last place", x.place(11, 3), 44);
    }

    // "FAR of two PLACES is by how many columns and rows they are apart, together"
    private static void far() {
        int[] flutes = {0, 5, 14, 30, 35};
        for (int flute : flutes) {
            FlutePark x = good("park 6 6;fall 1;flute " + flute + " 99");
            for (int place = 0; place < 36; place++) {
                int far = Math.abs(place % 6 - flute % 6) + Math.abs(place / 6 - flute / 6);
                due("flute at " + flute + ", heard at " + place, x.place(place, 3), 99 - far);
            }
        }
    }

    // "WALK is a set of them (none at first)"
    private static void walkIsASet() {
        FlutePark x = good("walk 5 6;walk 6 7;walk 5 6;walk 12 12");
        for (int place = 0; place < 16; place++) {
            due("walk at " + place, x.place(place, 0), place >= 5 && place <= 7 || place == 12 ? 1 : 0);
        }
    }

    // "FALL is 1 .. 9 (2 at first)"
    private static void fall() {
        for (int fall = 0; fall <= 12; fall++) {
            if (fall < 1 || fall > 9) {
                due("fall stays", bad("fall " + fall, 5).count(2), 2);
            } else {
                FlutePark x = good("fall " + fall);
                due("fall", x.count(2), fall);
                due("by fall", x.place(4, 3), 50 - fall);
                due("by fall, twice", x.place(5, 3), 50 - 2 * fall);
            }
        }
        bad("fall 00", 5);
        good("fall 09");
        bad("fall 99", 5);
    }

    // "THE FLUTE is at a PLACE": from 0 to the last there is
    private static void fluteAtAPlace() {
        good("flute 0 9");
        due("flute at the last place", good("flute 15 9").place(15, 3), 9);
        bad("flute 16 9", 6);
        good("park 2 2;flute 3 9");
        bad("park 2 2;flute 4 9", 15);
        due("flute at 35", good("park 6 6;flute 35 9").place(35, 3), 9);
        bad("park 6 6;flute 36 9", 15);
        bad("flute 99 9", 6);
    }

    // "LOUD 0 .. 99 (at 0, 50 at first)"
    private static void fluteLoud() {
        due("loud 0", good("flute 3 0").place(3, 3), 0);
        due("loud 1", good("flute 3 1").place(3, 3), 1);
        due("loud 99", good("flute 3 99").place(3, 3), 99);
        due("loud 100", bad("flute 3 100", 8).place(0, 3), 50);
        bad("flute 3 -1", 8);
    }

    // "HEDGES are at some PLACES (none at first)"; "hedge: one is at P"
    private static void hedgesAtPlaces() {
        FlutePark x = good("hedge 0;hedge 15;hedge 7");
        for (int place = 0; place < 16; place++) {
            due("hedge at " + place, x.place(place, 1), place == 0 || place == 7 || place == 15 ? 1 : 0);
        }
        bad("hedge 16", 6);
        good("park 6 6;hedge 35;hedge 31;hedge 32;hedge 33");
        bad("park 6 6;hedge 36", 15);
        good("park 2 2;hedge 3;hedge 2;hedge 1;hedge 0");
        bad("park 2 2;hedge 4", 15);
    }

    // "one that is there: a FAULT at P"
    private static void hedgeThatIsThere() {
        bad("hedge 3;hedge 3", 14);
        bad("hedge 3;hedge 03", 14);
        good("hedge 3;hedge 2;hedge 4");
        FlutePark x = good("park 6 6;hedge 35;hedge 0");
        bad(x, "hedge 35", 6);
        bad(x, "hedge 0", 6);
        bad(x, "still;hedge 35", 12);
        bad(x, "hedge 34;hedge 35", 15);
        due("nothing of it is done", x.place(34, 1), 0);
        good(x, "hedge 34;hedge 1;hedge 3");
        good(x, "park 6 6;hedge 35;hedge 0");
    }

    // "walk: all PLACES P to Q (by numbers, Q not below P) are of WALK, too"
    private static void walkFromTo() {
        bad("walk 7 6", 7);
        FlutePark x = good("walk 7 7");
        due("6", x.place(6, 0), 0);
        due("7", x.place(7, 0), 1);
        due("8", x.place(8, 0), 0);
        good(x, "walk 7 8");
        due("8", x.place(8, 0), 1);
        due("9", x.place(9, 0), 0);
        good(x, "walk 0 15");
        due("0", x.place(0, 0), 1);
        due("15", x.place(15, 0), 1);
        bad("walk 0 16", 7);
        good("walk 15 15");
        bad("walk 15 14", 8);
        bad("walk 16 16", 5);
        bad("walk 16 3", 5);
        good("walk 0 0");
        FlutePark y = good("park 6 6;walk 30 35");
        due("29", y.place(29, 0), 0);
        due("30", y.place(30, 0), 1);
        due("35", y.place(35, 0), 1);
        bad("park 6 6;walk 30 36", 17);
        good("park 6 6;walk 0 35");
        good("park 2 2;walk 0 3");
        bad("park 2 2;walk 0 4", 16);
    }

    // "BANDS are 0, 1 .. as they come, 6 at most (none at first)"
    private static void sixBands() {
        String text = "";
        for (int bands = 1; bands <= 6; bands++) {
            text += (bands > 1 ? ";" : "") + "drum 3 " + bands + " 0 0";
            FlutePark x = good(text);
            due("bands", x.count(3), bands);
            due("licences", x.count(4), (1 << bands) - 1);
            due("the last band", x.band(bands - 1, 2), bands);
            due("behind the last band", x.band(bands, 2), UNKNOWN);
            due("all of them at 3", x.place(3, 2), (1 << bands) - 1);
        }
        bad(text + ";drum 3 7 0 0", 78);
    }

    // "plain ..: a BAND more, a seventh cannot stand there (at its word)"
    private static void seventhAtItsWord() {
        for (String kind : KINDS) {
            due("six stay", bad(good(SIX), kind + " 0 1 0 0", 0).count(3), 6);
            bad(good(SIX), kind, 0);
            bad(good(SIX), kind + " 99", 0);
            bad(SIX + ";" + kind + " 0 1 0 0", SIX.length() + 1);
            good(SIX + ";still;" + kind + " 0 1 0 0");
            good(SIX + ";park 2 2;" + kind + " 0 1 0 0");
            bad(good(BAND + BAND + "still;" + SIX), "worth 0 1;" + kind + " 0 1 0 0", 10);
            good(good(BAND + BAND + BAND + BAND + "drum 0 1 0 0"), kind + " 0 1 0 0");
            bad(good(BAND + BAND + BAND + BAND + "drum 0 1 0 0"), "drum 0 1 0 0;" + kind + " 0 1 0 0", 13);
        }
    }

    // "of a KIND, 0 PLAIN, 1 BRASS, 2 CHOIR, 3 DRUM"; "as they come"
    private static void bandsAsTheyCome() {
        FlutePark x = good("drum 1 2 3 4;choir 5 6 7 8;brass 9 10 1 11;plain 13 14 2 5");
        int[][] want = {{3, 1, 2, 3, 4}, {2, 5, 6, 7, 8}, {1, 9, 10, 1, 11}, {0, 13, 14, 2, 5}};
        for (int band = 0; band < 4; band++) {
            for (int what = 0; what < 5; what++) {
                due("band " + band + " " + what, x.band(band, what), want[band][what]);
            }
            due("worth at first", x.band(band, 5), 1);
            due("side at first", x.band(band, 6), 0);
            due("a licence", x.band(band, 7), 1);
        }
    }

    // "at a PLACE": from 0 to the last there is
    private static void bandAtAPlace() {
        for (String kind : KINDS) {
            int at = kind.length() + 1;
            due("at 0", good(kind + " 0 1 0 0").band(0, 1), 0);
            due("at 15", good(kind + " 15 1 0 0").band(0, 1), 15);
            bad(kind + " 16 1 0 0", at);
            bad("park 2 2;" + kind + " 4 1 0 0", 9 + at);
            due("at 35", good("park 6 6;" + kind + " 35 1 0 0").place(35, 2), 1);
            bad("park 6 6;" + kind + " 36 1 0 0", 9 + at);
        }
    }

    // "LOUD 0 .. 99"
    private static void bandLoud() {
        for (String kind : KINDS) {
            int at = kind.length() + 3;
            due("loud 0", good(kind + " 0 0 0 0").band(0, 2), 0);
            due("loud 1", good(kind + " 0 1 0 0").band(0, 2), 1);
            due("loud 99", good(kind + " 0 99 0 0").band(0, 2), 99);
            bad(kind + " 0 100 0 0", at);
        }
    }

    // "from HOUR a to HOUR b (0 .. 11, b not below a)"
    private static void bandHours() {
        for (String kind : KINDS) {
            int at = kind.length() + 5;
            for (int a = 0; a <= 13; a++) {
                for (int b = 0; b <= 13; b++) {
                    String text = kind + " 0 1 " + a + " " + b;
                    if (a > 11) {
                        bad(text, at);
                    } else if (b > 11 || b < a) {
                        bad(text, at + (a > 9 ? 3 : 2));
                    } else {
                        FlutePark x = good(text);
                        due("first hour", x.band(0, 3), a);
                        due("last hour", x.band(0, 4), b);
                    }
                }
            }
        }
    }

    // "of a WORTH (0 .. 99; 1 at first)"
    private static void worth() {
        FlutePark x = good(SIX);
        for (int band = 0; band < 6; band++) {
            due("worth at first", x.band(band, 5), 1);
        }
        good(x, "worth 5 0;worth 0 99;worth 1 00");
        int[] want = {99, 0, 1, 1, 1, 0};
        for (int band = 0; band < 6; band++) {
            due("worth", x.band(band, 5), want[band]);
        }
        bad(x, "worth 0 100", 8);
        bad(x, "worth 6 1", 6);
        bad(x, "worth 99 1", 6);
        bad("worth 0 1", 6);
        bad(BAND + "worth 1 1", 20);
        good(BAND + "worth 00 1");
        due("a new band has worth 1 again", good(x, "still;drum 0 1 0 0").band(0, 5), 1);
    }

    // "a SIDE (0 up, 1 right, 2 down, 3 left; 0 at first)"
    private static void side() {
        FlutePark x = good(SIX);
        for (int band = 0; band < 6; band++) {
            due("side at first", x.band(band, 6), 0);
        }
        good(x, "side 5 3;side 0 1;side 1 2;side 2 3;side 2 0");
        int[] want = {1, 2, 0, 0, 0, 3};
        for (int band = 0; band < 6; band++) {
            due("side", x.band(band, 6), want[band]);
        }
        bad(x, "side 0 4", 7);
        bad(x, "side 6 0", 5);
        bad("side 0 0", 5);
        bad(BAND + "side 1 0", 19);
        for (String kind : KINDS) {
            due("side of a " + kind, good(kind + " 0 1 0 0;side 0 3").band(0, 6), 3);
        }
        due("a new band has side 0 again", good(x, "still;drum 0 1 0 0").band(0, 6), 0);
    }

    // "n (1 .. 8) bytes more of THE TEXT .. OUTSIDE"
    private static void writeOneToEight() {
        FlutePark x = new FlutePark();
        int length = 0;
        for (int n = -3; n <= 12; n++) {
            if (n < 1 || n > 8) {
                due("write n " + n, x.write(0x2020202020202020L, n), OUTSIDE);
            } else {
                length += n;
                due("write n " + n, x.write(0x2020202020202020L, n), length);
            }
            due("bytes behind n " + n, x.count(8), length);
        }
        for (int n : new int[] {Integer.MIN_VALUE, Integer.MAX_VALUE, 257, 264, -248, 1 << 30}) {
            due("write n " + n, x.write(0, n), OUTSIDE);
        }
        due("bytes", x.count(8), length);
    }

    // "byte i being bytes >> 8 i & 255"
    private static void writeByteByByte() {
        for (int i = 0; i < 8; i++) {
            // A byte of 255 where no other fault is: it is found at its place.
            FlutePark x = new FlutePark();
            due("write", x.write(0x2020202020202020L | 255L << 8 * i, 8), 8);
            due("255 as byte " + i, x.fault(), i);
            // Behind the n-th byte nothing is written, whatever it is.
            FlutePark y = new FlutePark();
            due("write", y.write(~0L << 8 * i | 0x2020202020202020L, 8), 8);
            due("255 from byte " + i + " on", y.fault(), i);
            if (i > 0) {
                y.erase();
                due("write", y.write(~0L << 8 * i | 0x2020202020202020L, i), i);
                due("none of them", y.fault(), i);
                due("write", y.write(0x6c6c697473L, 5), i + 5);
                due("still", y.park(), 1);
            }
        }
        FlutePark z = new FlutePark();
        due("write 0", z.write(0, 8), 8);
        due("bytes of 0 are no blanks", z.fault(), 0);
        z.erase();
        due("write the least", z.write(Long.MIN_VALUE | 0x20202020202020L, 8), 8);
        due("128 as byte 7", z.fault(), 7);
    }

    // "THE TEXT is a row of bytes, 200 at most"; "FULL"
    private static void twoHundredBytes() {
        for (int n = 1; n <= 8; n++) {
            FlutePark x = new FlutePark();
            write(x, blanks(200 - n));
            due("just enough room for " + n, x.write(0x7878787878787878L, n), 200);
            due("its first byte", x.fault(), 200 - n);
            for (int more = 1; more <= 8; more++) {
                due("no room for " + more, x.write(0x2020202020202020L, more), FULL);
            }
            due("outside ahead of full", x.write(0, 0), OUTSIDE);
            due("outside ahead of full", x.write(0, 9), OUTSIDE);
            FlutePark y = new FlutePark();
            write(y, blanks(201 - n));
            due("a byte too many", y.write(0x7878787878787878L, n), FULL);
            due("nothing is written", y.count(8), 201 - n);
            due("nothing is written", y.fault(), 201 - n);
            if (n > 1) {
                due("one less fits", y.write(0x7878787878787878L, n - 1), 200);
            }
            due("erase", y.erase(), 200);
            due("room again", y.write(0x6c6c697473L, 5), 5);
            due("still", y.fault(), NONE);
        }
    }

    private static void wholeTextIsRead() {
        good(blanks(195) + "still");
        good("still" + blanks(195));
        bad(blanks(194) + "still;", 200);
        bad("still" + blanks(194) + "x", 199);
        bad("still" + blanks(194) + ";", 200);
        bad("fall 1" + blanks(193) + "3", 199);
        due("fall by the last byte", good("fall" + blanks(195) + "7").count(2), 7);
        bad(blanks(200), 200);
        bad("x".repeat(200), 0);
        bad("fall " + "1".repeat(195), 5);
        String twelve = "park 6 6;walk 10 35;plain 35 99 10 11;plain 35 99 10 11;plain 35 99 10 11;plain 35 99 10 11;"
                + "plain 35 99 10 11;plain 35 99 10 11;worth 5 99;worth 4 99;side 5 3;hedge";
        FlutePark x = good(twelve + blanks(198 - twelve.length()) + "33");
        due("hedge by the last bytes", x.place(33, 1), 1);
        due("six bands", x.count(3), 6);
        FlutePark y = new FlutePark();
        write(y, "still" + blanks(195));
        due("a full text is done", y.park(), 1);
        due("then it is empty", y.write(0x6c6c697473L, 5), 5);
    }

    // "THE TEXT is empty: how many bytes it had"
    private static void erase() {
        FlutePark x = new FlutePark();
        due("erase nothing", x.erase(), 0);
        x.write('x', 1);
        due("erase one", x.erase(), 1);
        due("none", x.count(8), 0);
        due("erase again", x.erase(), 0);
        write(x, blanks(200));
        due("erase 200", x.erase(), 200);
        due("an empty text's fault", x.fault(), 0);
        good(x, "still");
        due("erase a text that was done", x.erase(), 0);
    }

    // "an empty TEXT ends too soon"
    private static void emptyText() {
        FlutePark x = new FlutePark();
        due("fault of nothing", x.fault(), 0);
        due("park of nothing", x.park(), NOT);
        bad(" ", 1);
        bad("  ", 2);
        good(x, "still");
        due("fault behind a text", x.fault(), 0);
        due("park behind a text", x.park(), NOT);
    }

    private static String stills(int n) {
        String text = "still";
        for (int i = 1; i < n; i++) {
            text += ";still";
        }
        return text;
    }

    // "LINES with ; (59) between, 1 to 12"
    private static void oneToTwelveLines() {
        for (int n = 1; n <= 15; n++) {
            if (n <= 12) {
                good(stills(n));
            } else {
                bad(stills(n), 71);
            }
        }
    }

    // "behind the 12th no ; can stand"
    private static void behindTheTwelfth() {
        good(stills(11) + ";still   ");
        bad(stills(11) + ";", 66);
        bad(stills(12) + ";", 71);
        bad(stills(12) + "  ;", 73);
        bad(stills(12) + ";;", 71);
        bad(stills(12) + ";gate", 71);
        bad(stills(12) + " gate;", 72);
        bad(stills(11) + ";gate;", 66);
        bad(stills(11) + ";fall;", 70);
        bad(stills(10) + ";fall 0;still;", 65);
        due("the twelfth is done", good(stills(11) + ";fall 7").count(2), 7);
        due("of thirteen none is done", bad("fall 7;" + stills(12), 72).count(2), 2);
    }

    // "LINES with ; (59) between": not ahead of the first, not behind the last, one only
    private static void onlySemicolonsBetween() {
        bad(";still", 0);
        bad("still;", 6);
        bad("still;;still", 6);
        bad("still; ;still", 7);
        bad("still still", 6);
        bad("fall 3 fall 3", 7);
        bad("still:still", 5);
        bad("still<still", 5);
        good("still;still");
        good("still ; still");
    }

    // "small letters a .. z"
    private static void lettersAreSmall() {
        bad("`still", 0);
        bad("{still", 0);
        bad("astill", 0);
        bad("zstill", 0);
        bad("still`", 5);
        bad("still{", 5);
        bad("stilla", 0);
        bad("stillz", 0);
        for (String word : WORDS) {
            bad(word.toUpperCase(), 0);
            bad(word.substring(0, 1).toUpperCase() + word.substring(1), 0);
        }
    }

    // "each is one of: park W H. fall F. .. (As written here, without points ..)"
    private static void words() {
        for (int i = 0; i < WORDS.length; i++) {
            String word = WORDS[i];
            String rest = LINES[i].substring(word.length());
            good(BAND + LINES[i]);
            bad(BAND + word.substring(1) + rest, 14);
            bad(BAND + word.substring(0, word.length() - 1) + rest, 14);
            bad(BAND + word + "s" + rest, 14);
            bad(BAND + "a" + word + rest, 14);
            bad(BAND + word.substring(0, 2) + " " + word.substring(2) + rest, 14);
            bad(BAND + LINES[i] + ".", 14 + LINES[i].length());
            bad(BAND + word + ";" + rest, i == 11 ? 20 : 14 + word.length());
        }
        bad("band 0 1 0 0", 0);
        bad("widow 0", 0);
        bad("a", 0);
        bad("0", 0);
    }

    /** Each line with a number less, and with one more. */
    private static void numbersOfALine() {
        for (String line : LINES) {
            bad(BAND + line + " 1", 14 + line.length() + 1);
            bad(BAND + line + " x", 14 + line.length() + 1);
            int last = line.lastIndexOf(' ');
            if (last > 0) {
                bad(BAND + line.substring(0, last), 14 + last);
                bad(BAND + line.substring(0, last) + ";still", 14 + last);
                bad(BAND + line.substring(0, last) + " x", 14 + last + 1);
            }
        }
        for (String word : WORDS) {
            if (!word.equals("still")) {
                bad(BAND + word, 14 + word.length());
                bad(BAND + word + " ", 14 + word.length() + 1);
            }
        }
    }

    // "numbers of 1 or 2 digits"; "a number .. of more digits, also"
    private static void digits() {
        due("0", good("flute 0 0").place(0, 3), 0);
        due("00", good("flute 00 00").place(0, 3), 0);
        bad("flute 000 0", 6);
        bad("flute 0 000", 8);
        due("9", good("flute 9 9").place(9, 3), 9);
        due("09", good("flute 09 09").place(9, 3), 9);
        bad("flute 009 9", 6);
        bad("flute 9 009", 8);
        due("10", good("flute 10 10").place(10, 3), 10);
        due("90", good("flute 1 90").place(1, 3), 90);
        bad("flute 1 010", 8);
        bad("flute 1 990", 8);
        bad("flute 1 4294967297", 8);
        bad("fall 0000000001", 5);
        bad("flute 1 +5", 8);
        bad("flute 1 5.0", 9);
        bad("flute 1 5e0", 9);
        bad("flute 1 x5", 8);
    }

    // "blanks (32) may stand ahead of, between and behind TOKENS"
    private static void blanksAheadBetweenBehind() {
        FlutePark x = good("   park   3   2   ;   walk   1   4   ;   fall   5   ");
        due("columns", x.count(0), 3);
        due("rows", x.count(1), 2);
        due("fall", x.count(2), 5);
        due("walk", x.place(4, 0), 1);
        for (int blank : new int[] {0, 9, 10, 13, 31, 33, 160}) {
            bad("still" + (char) blank, 5);
            bad((char) blank + "still", 0);
            bad("park 2" + (char) blank + "2", 6);
        }
        // In a token they cannot stand.
        bad("st ill", 0);
        bad("fall 1 0", 7);
    }

    // "none is needed but between two words, two numbers"
    private static void noBlanksNeeded() {
        FlutePark x = good("park3 2;walk1 4;fall5;plain0 1 2 3;still");
        due("columns", x.count(0), 3);
        due("fall", x.count(2), 5);
        bad("park32", 4);
        bad("park 33", 5);
        bad("walk 14", 7);
        bad("stillstill", 0);
        bad("fallfall", 0);
    }

    private static boolean isDigit(int b) {
        return b >= 48 && b <= 57;
    }

    private static boolean isLetter(int b) {
        return b >= 97 && b <= 122;
    }

    // "TOKEN (a row of small letters, a row of digits, any other byte)"
    private static void everyByteBehindAWord() {
        for (int b = 0; b < 256; b++) {
            goodOrBad("still" + (char) b, b == 32 ? NONE : b == 59 ? 6 : isLetter(b) ? 0 : 5);
        }
    }

    private static void everyByteAheadOfAWord() {
        for (int b = 0; b < 256; b++) {
            goodOrBad("still;" + (char) b + "still", b == 32 ? NONE : 6);
        }
    }

    private static void everyByteBetweenWordAndNumber() {
        for (int b = 0; b < 256; b++) {
            goodOrBad("fall" + (char) b + "3", b == 32 || b == 48 ? NONE : isLetter(b) ? 0 : 4);
        }
    }

    private static void everyByteBetweenNumbers() {
        for (int b = 0; b < 256; b++) {
            goodOrBad("park 4" + (char) b + "4", b == 32 ? NONE : isDigit(b) ? 5 : 6);
        }
    }

    private static void everyByteBehindANumber() {
        for (int b = 0; b < 256; b++) {
            goodOrBad("flute 1 8" + (char) b, b == 32 || isDigit(b) ? NONE : b == 59 ? 10 : 9);
            goodOrBad("fall 0" + (char) b, b >= 49 && b <= 57 ? NONE : 5);
        }
    }

    // "A FAULT is at the first TOKEN .. that cannot stand there"
    private static void firstFault() {
        bad("park 1 1;fall 0;gate", 5);
        bad("park 2 1;fall 0;gate", 7);
        bad("park 2 2;fall 0;gate", 14);
        bad("park 2 2;fall 1;gate", 16);
        bad("plain 99 99 99 99", 6);
        bad("plain 15 100 99 99", 9);
        bad("plain 15 99 12 99", 12);
        bad("plain 15 99 11 10", 15);
        bad("walk 9 8;walk 99 0", 7);
        bad("fall 10;;", 5);
        bad("  gate  ", 2);
        bad("still  gate", 7);
        bad("fall  12 ", 6);
    }

    // "or at the end, if it comes too soon": the length, blanks and all
    private static void endTooSoon() {
        bad("park", 4);
        bad("park ", 5);
        bad("park 2", 6);
        bad("park 2   ", 9);
        bad("still;", 6);
        bad("still;  ", 8);
        bad("plain 0 1 2 ", 12);
    }

    // "PLACES, BANDS such as there are behind the LINES ahead"
    private static void suchAsThereAre() {
        bad("walk 0 16;park 6 6", 7);
        good("park 6 6;walk 0 16");
        good("walk 0 15;park 2 2");
        bad("park 2 2;walk 0 15", 16);
        bad("worth 0 1;drum 0 1 0 0", 6);
        good("drum 0 1 0 0;worth 0 1");
        bad("drum 0 1 0 0;still;worth 0 1", 25);
        bad("drum 0 1 0 0;park 4 4;side 0 1", 27);
        FlutePark x = good("park 2 2;drum 0 1 0 0;drum 0 1 0 0");
        bad(x, "hedge 4", 6);
        good(x, "worth 1 1");
        bad(x, "worth 2 1", 6);
        bad(x, "park 2 3;worth 0 1", 15);
        good(x, "park 2 3;hedge 5");
    }

    // "what earlier texts told stays"
    private static void earlierTextsStay() {
        FlutePark x = good("park 5 3;fall 4;flute 7 60;hedge 9;walk 3 4;brass 2 30 1 2;worth 0 8;side 0 3");
        good(x, "walk 14 14");
        due("columns", x.count(0), 5);
        due("rows", x.count(1), 3);
        due("fall", x.count(2), 4);
        due("flute", x.place(7, 3), 60);
        due("hedge", x.place(9, 1), 1);
        due("walk", x.place(3, 0), 1);
        due("walk, too", x.place(14, 0), 1);
        due("band", x.place(2, 2), 1);
        int[] want = {1, 2, 30, 1, 2, 8, 3, 1};
        for (int what = 0; what < 8; what++) {
            due("band " + what, x.band(0, what), want[what]);
        }
        good(x, "drum 2 5 0 0");
        due("a band more", x.place(2, 2), 3);
    }

    // "LINES are done in their order"
    private static void linesInTheirOrder() {
        FlutePark x = good("fall 3;fall 9;fall 4;flute 1 9;flute 2 8;drum 0 1 0 0;worth 0 5;worth 0 6;side 0 1;side 0 2");
        due("the last fall", x.count(2), 4);
        due("the last flute", x.place(2, 3), 8);
        due("the last worth", x.band(0, 5), 6);
        due("the last side", x.band(0, 6), 2);
        good(x, "drum 0 1 0 0;still;plain 0 2 0 0");
        due("bands behind still", x.count(3), 1);
        due("plain", x.band(0, 0), 0);
        good(x, "park 2 2;park 6 6;walk 35 35;park 3 3");
        due("the last park", x.count(0), 3);
        due("no walk", x.count(6), NONE);
    }

    // "park: no WALK, HEDGES, BANDS, all else as at first"
    private static void parkAsAtFirst() {
        FlutePark x = good("fall 9;flute 15 7;walk 0 15;hedge 0;hedge 15;drum 0 1 0 0");
        good(x, "park 4 4");
        due("fall", x.count(2), 2);
        due("bands", x.count(3), 0);
        due("licences", x.count(4), 0);
        due("nowhere", x.count(6), NONE);
        for (int place = 0; place < 16; place++) {
            due("walk", x.place(place, 0), 0);
            due("hedge", x.place(place, 1), 0);
            due("bands", x.place(place, 2), 0);
            due("flute", x.place(place, 3), 50 - 2 * (place % 4 + place / 4));
        }
        // Walk and hedges of a larger park do not come back with another larger one.
        good(x, "park 6 6;walk 0 35;hedge 35");
        good(x, "park 2 2");
        good(x, "park 6 6");
        due("no walk", x.place(35, 0), 0);
        due("no hedge", x.place(35, 1), 0);
        due("nowhere", x.count(6), NONE);
    }

    // "still: no BANDS"
    private static void stillNoBands() {
        FlutePark x = good("fall 9;flute 15 7;walk 2 3;hedge 0;drum 0 1 0 0;drum 1 1 0 0");
        good(x, "still");
        due("no bands", x.count(3), 0);
        due("no band 0", x.band(0, 0), UNKNOWN);
        due("none at 0", x.place(0, 2), 0);
        due("fall stays", x.count(2), 9);
        due("flute stays", x.place(15, 3), 7);
        due("walk stays", x.place(2, 0), 1);
        due("hedge stays", x.place(0, 1), 1);
        good(x, "still;still");
        due("no bands", x.count(3), 0);
    }

    // "Behind them it is HOUR 0, all BANDS have a LICENCE, she is at the least PLACE of WALK (none: nowhere), nothing is
    // SEEN, nothing is kept."
    private static void behindTheLines() {
        FlutePark x = good("walk 4 5;walk 2 2;drum 0 1 0 0;drum 0 1 0 0");
        due("the least of walk", x.count(6), 2);
        for (int i = 0; i < 11; i++) {
            x.step(2);
        }
        due("hour 11", x.count(5), 11);
        x.licence(0, 0);
        x.licence(1, 0);
        x.keep(0);
        x.keep(1);
        for (int i = 0; i < 8; i++) {
            x.seen(0, 0, 1);
        }
        good(x, "fall 2");
        due("hour 0", x.count(5), 0);
        due("licences", x.count(4), 3);
        due("the least of walk", x.count(6), 2);
        due("nothing seen", x.count(7), 0);
        due("nothing kept", x.back(0), NOT);
        due("nothing kept", x.back(1), NOT);
        due("a sighting more", x.seen(0, 0, 1), 1);
        due("the least of walk, 0", good(x, "walk 0 0").count(6), 0);
        due("the least of walk, 35", good(x, "park 6 6;walk 35 35").count(6), 35);
        due("the least of walk, 32", good(x, "walk 32 34").count(6), 32);
        due("nowhere", good(x, "park 6 6").count(6), NONE);
    }

    // "NOT: it has a FAULT"; "Refused, and nothing changes"
    private static void faultLeavesAll() {
        FlutePark x = good("walk 4 5;drum 0 1 0 0;drum 0 1 0 0");
        x.step(5);
        x.licence(1, 0);
        x.keep(1);
        x.step(4);
        x.seen(3, 3, 1);
        bad(x, "park 6 6;fall 9;walk 0 35;drum 35 9 0 0;hedge 3;worth 0 9;gate", 58);
        int[] want = {4, 4, 2, 2, 1, 2, 4, 1, 62};
        for (int what = 0; what < 9; what++) {
            due("count " + what, x.count(what), want[what]);
        }
        due("no hedge", x.place(3, 1), 0);
        due("no walk", x.place(0, 0), 0);
        due("worth", x.band(0, 5), 1);
        due("nothing kept at 0", x.back(0), NOT);
        due("kept at 1", x.back(1), 1);
        due("where she was", x.count(6), 5);
        // The rest of the text may come later.
        x.erase();
        write(x, "fall");
        due("too soon", x.fault(), 4);
        due("not yet", x.park(), NOT);
        write(x, "3");
        due("now", x.park(), 1);
        due("fall", x.count(2), 3);
    }
}
