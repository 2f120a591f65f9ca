/**
 * What is heard, hours, what is foretold and what was seen: each bound that the document names, at it and on both sides
 * of it. (The bounds of texts are in FluteParkTextEdges, the calls that are refused in FluteParkRefusals.)
 *
 * Above each test stands the sentence of the document that would be broken if it failed.
 */
public final class FluteParkCallEdges {
    private static final int NONE = -1;
    private static final int UNKNOWN = -2;
    private static final int OUTSIDE = -3;
    private static final int NOT = -4;
    private static final int FULL = -5;

    private static final String[] KINDS = {"plain", "brass", "choir", "drum"};

    private static int wrong = 0;

    private static void due(String call, long got, long want) {
        if (got != want) {
            wrong++;
            System.out.println(call + " answered " + got + ", due is " + want);
        }
    }

    private static FlutePark tell(FlutePark x, String text) {
        x.erase();
        for (int i = 0; i < text.length(); i += 8) {
            int n = Math.min(8, text.length() - i);
            long bytes = 0;
            for (int b = 0; b < n; b++) {
                bytes |= (long) text.charAt(i + b) << 8 * b;
            }
            x.write(bytes, n);
        }
        due("park of '" + text + "'", x.park(), text.split(";").length);
        return x;
    }

    private static FlutePark told(String text) {
        return tell(new FlutePark(), text);
    }

    private static void dueSounds(FlutePark x, int band, int hour, int... want) {
        for (int place = 0; place < want.length; place++) {
            due("sound of " + band + " at " + place + " in " + hour, x.sound(band, place, hour), want[place]);
        }
    }

    private static void stay(FlutePark x, int place, int hours) {
        for (int i = 0; i < hours; i++) {
            x.step(place);
        }
    }

    public static void main(String[] args) {
        placeWhat();
        bandWhat();
        fluteSound();
        bandSound();
        ownHours();
        halfByAHedge();
        hedgeAtItsPlace();
        brassToItsSide();
        brassAtTheRim();
        choirInOddHours();
        kindsOverOneAnother();
        asWhatItIs();
        asInThisHour();
        licenceGivenOrTaken();
        soundWithoutALicence();
        noiseOfLicences();
        heardAbove();
        heardByAFluteOfNone();
        holdsInAllHours();
        holdsAtAllPlacesOfWalk();
        holdsWithoutWalk();
        stepFarOne();
        stepInTheWalk();
        stepNowhere();
        hourBehindEleven();
        heardThere();
        keepAndBack();
        keptSinceTheLastText();
        firstHourThenPlace();
        firstBand();
        mostWorth();
        mostOfSeveral();
        mostNone();
        standsAtPlaces();
        standsWithItsLicence();
        sidesOfBrass();
        fewestHedges();
        hedgesOfSeveral();
        marginLeast();
        marginOfNoWalk();
        price();
        wayHere();
        wayHeardInEachHour();
        wayThroughHours();
        wayInNinetyNine();
        windByTenths();
        windDoubledIsNotAbove();
        windOfSix();
        windOfLicences();
        eightSeen();
        seenOrNot();
        playedSets();
        countWhat();
        fiveHundredAndTwelveCalls();
        System.out.println(wrong == 0 ? "all answers are as due" : wrong + " answers are not as due");
        if (wrong != 0) {
            System.exit(1);
        }
    }

    // place: "what 0 .. 3"
    private static void placeWhat() {
        FlutePark x = told("park 6 6;walk 35 35;hedge 35;drum 35 9 0 0;plain 0 9 0 0;drum 35 9 0 0;walk 0 0");
        int[] want = {1, 1, 5, 30};
        for (int what = -2; what <= 6; what++) {
            due("place 35 what " + what, x.place(35, what), what < 0 || what > 3 ? OUTSIDE : want[what]);
        }
        int[] first = {1, 0, 2, 50};
        for (int what = 0; what < 4; what++) {
            due("place 0 what " + what, x.place(0, what), first[what]);
            due("place -1", x.place(-1, what), UNKNOWN);
            due("place 36", x.place(36, what), UNKNOWN);
        }
    }

    // band: "what 0 .. 7"
    private static void bandWhat() {
        FlutePark x = told("plain 0 1 0 0;brass 7 8 9 10;worth 1 11;side 1 2");
        int[] want = {1, 7, 8, 9, 10, 11, 2, 1};
        for (int what = -2; what <= 10; what++) {
            due("band 1 what " + what, x.band(1, what), what < 0 || what > 7 ? OUTSIDE : want[what]);
        }
        due("band -1", x.band(-1, 0), UNKNOWN);
        due("band 0", x.band(0, 0), 0);
        due("band 2", x.band(2, 0), UNKNOWN);
        due("take", x.licence(1, 0), 1);
        due("its licence", x.band(1, 7), 0);
        due("the other's", x.band(0, 7), 1);
    }

    // "SOUND of THE FLUTE at a PLACE: its LOUD less FALL for each of FAR, 0 at least"
    private static void fluteSound() {
        int[][] want = {{8, 5, 2, 0, 0, 0}, {7, 4, 1, 0, 0, 0}, {6, 3, 0, 0, 0, 0}, {5, 2, 0, 0, 0, 0}};
        for (int i = 0; i < want.length; i++) {
            FlutePark x = told("park 6 2;fall 3;flute 0 " + (8 - i));
            for (int place = 0; place < 6; place++) {
                due("flute of " + (8 - i) + " at " + place, x.place(place, 3), want[i][place]);
            }
        }
        due("far 10, fall 9", told("park 6 6;fall 9;flute 0 99").place(35, 3), 9);
        due("far 10, fall 9", told("park 6 6;fall 9;flute 0 90").place(35, 3), 0);
        due("far 10, fall 9", told("park 6 6;fall 9;flute 0 91").place(35, 3), 1);
        due("far 10, fall 9", told("park 6 6;fall 9;flute 0 0").place(35, 3), 0);
    }

    // "SOUND of a BAND in an HOUR: likewise"
    private static void bandSound() {
        for (String kind : new String[] {"plain", "choir", "drum"}) {
            FlutePark x = told("park 6 2;fall 3;" + kind + " 0 8 0 0;" + kind + " 0 7 0 0;" + kind + " 0 6 0 0");
            dueSounds(x, 0, 0, 8, 5, 2, 0, 0, 0);
            dueSounds(x, 1, 0, 7, 4, 1, 0, 0, 0);
            dueSounds(x, 2, 0, 6, 3, 0, 0, 0, 0);
        }
        FlutePark y = told("park 6 2;fall 3;brass 0 8 0 0;brass 0 7 0 0;brass 0 6 0 0;side 0 1;side 1 1;side 2 1");
        dueSounds(y, 0, 0, 0, 5, 2, 0, 0, 0);
        dueSounds(y, 1, 0, 0, 4, 1, 0, 0, 0);
        dueSounds(y, 2, 0, 0, 3, 0, 0, 0, 0);
        due("far 10, fall 9", told("park 6 6;fall 9;drum 35 91 0 0").sound(0, 0, 0), 1);
        due("far 10, fall 9", told("park 6 6;fall 9;drum 35 90 0 0").sound(0, 0, 0), 0);
        due("far 10, fall 9", told("park 6 6;fall 9;drum 35 0 0 0").sound(0, 0, 0), 0);
    }

    // "0 in HOURS that are not its own"
    private static void ownHours() {
        for (int a = 0; a < 12; a++) {
            for (int b = a; b < 12; b++) {
                FlutePark x = told("plain 5 9 " + a + " " + b + ";drum 5 8 " + a + " " + b);
                for (int hour = 0; hour < 12; hour++) {
                    boolean own = hour >= a && hour <= b;
                    due(a + " to " + b + " in " + hour, x.sound(0, 5, hour), own ? 9 : 0);
                    due(a + " to " + b + " in " + hour, x.noise(5, hour), own ? 17 : 0);
                }
                due("hour -1", x.sound(0, 5, -1), OUTSIDE);
                due("hour 12", x.sound(0, 5, 12), OUTSIDE);
                due("hour -1", x.noise(5, -1), OUTSIDE);
                due("hour 12", x.noise(5, 12), OUTSIDE);
            }
        }
    }

    // "half of it (cut), if a HEDGE is at its PLACE, but for a DRUM"
    private static void halfByAHedge() {
        for (int loud : new int[] {0, 1, 2, 3, 4, 5, 98, 99}) {
            FlutePark x = told("fall 1;hedge 5;plain 5 " + loud + " 0 0;choir 5 " + loud + " 0 0;drum 5 " + loud
                    + " 0 0;brass 5 " + loud + " 0 0");
            due("plain of " + loud, x.sound(0, 5, 0), loud / 2);
            due("choir of " + loud, x.sound(1, 5, 0), loud / 2);
            due("drum of " + loud, x.sound(2, 5, 0), loud);
            due("brass of " + loud, x.sound(3, 1, 0), loud == 0 ? 0 : (loud - 1) / 2);
        }
        // Less FALL first, 0 at least, then half.
        dueSounds(told("park 6 2;fall 3;hedge 0;plain 0 10 0 0"), 0, 0, 5, 3, 2, 0, 0, 0);
        dueSounds(told("park 6 2;fall 3;hedge 0;plain 0 11 0 0"), 0, 0, 5, 4, 2, 1, 0, 0);
        dueSounds(told("park 6 2;fall 3;hedge 0;drum 0 10 0 0"), 0, 0, 10, 7, 4, 1, 0, 0);
    }

    private static void hedgeAtItsPlace() {
        FlutePark x = told("park 6 2;fall 3;hedge 1;hedge 2;hedge 6;plain 0 10 0 0");
        dueSounds(x, 0, 0, 10, 7, 4, 1, 0, 0, 7, 4);
        due("the flute is not halved", told("hedge 0").place(0, 3), 50);
        due("hedge at 35", told("park 6 6;hedge 35;plain 35 11 0 0").sound(0, 35, 0), 5);
        due("hedge at 34", told("park 6 6;hedge 34;plain 35 11 0 0").sound(0, 35, 0), 11);
    }

    // "of a BRASS one none at PLACES that do not lie to its SIDE (up: in a row above its; right: ..)"
    private static void brassToItsSide() {
        int[][] heard = {{0, 1, 2}, {2, 5, 8}, {6, 7, 8}, {0, 3, 6}};
        for (int side = 0; side < 4; side++) {
            FlutePark x = told("park 3 3;fall 1;brass 4 9 0 11;side 0 " + side);
            int[] want = new int[9];
            for (int place : heard[side]) {
                want[place] = place % 2 == 0 ? 7 : 8;
            }
            dueSounds(x, 0, 0, want);
            dueSounds(x, 0, 11, want);
            for (String kind : new String[] {"plain", "choir", "drum"}) {
                dueSounds(told("park 3 3;fall 1;" + kind + " 4 9 0 11;side 0 " + side), 0, 0, 7, 8, 7, 8, 9, 8, 7, 8, 7);
            }
        }
    }

    private static void brassAtTheRim() {
        int[] nothing = new int[6];
        dueSounds(told("park 2 3;fall 1;brass 0 9 0 0;side 0 0"), 0, 0, nothing);
        dueSounds(told("park 2 3;fall 1;brass 0 9 0 0;side 0 1"), 0, 0, 0, 8, 0, 7, 0, 6);
        dueSounds(told("park 2 3;fall 1;brass 0 9 0 0;side 0 2"), 0, 0, 0, 0, 8, 7, 7, 6);
        dueSounds(told("park 2 3;fall 1;brass 0 9 0 0;side 0 3"), 0, 0, nothing);
        dueSounds(told("park 2 3;fall 1;brass 5 9 0 0;side 0 0"), 0, 0, 6, 7, 7, 8, 0, 0);
        dueSounds(told("park 2 3;fall 1;brass 5 9 0 0;side 0 1"), 0, 0, nothing);
        dueSounds(told("park 2 3;fall 1;brass 5 9 0 0;side 0 2"), 0, 0, nothing);
        dueSounds(told("park 2 3;fall 1;brass 5 9 0 0;side 0 3"), 0, 0, 6, 0, 7, 0, 8, 0);
    }

    // "of a CHOIR none in odd HOURS"
    private static void choirInOddHours() {
        FlutePark x = told("choir 0 9 0 11;choir 0 9 11 11;choir 0 9 10 11;choir 0 9 1 2;plain 0 9 0 11;drum 0 9 0 11");
        for (int hour = 0; hour < 12; hour++) {
            boolean odd = hour % 2 == 1;
            due("choir in " + hour, x.sound(0, 0, hour), odd ? 0 : 9);
            due("choir of hour 11 in " + hour, x.sound(1, 0, hour), 0);
            due("choir of 10 and 11 in " + hour, x.sound(2, 0, hour), hour == 10 ? 9 : 0);
            due("choir of 1 and 2 in " + hour, x.sound(3, 0, hour), hour == 2 ? 9 : 0);
            due("plain in " + hour, x.sound(4, 0, hour), 9);
            due("drum in " + hour, x.sound(5, 0, hour), 9);
        }
    }

    // "KINDS are over one another: BAND (0); PLAIN (1) under it; BRASS (2) is PLAIN; CHOIR (3) is PLAIN; DRUM (4) is a
    // BAND"; as: "OUTSIDE; NOT: it is none such"
    private static void kindsOverOneAnother() {
        boolean[][] is = {{true, true, false, false, false}, {true, true, true, false, false},
            {true, true, false, true, false}, {true, false, false, false, true}};
        for (int kind = 0; kind < 4; kind++) {
            FlutePark x = told(KINDS[kind] + " 0 9 0 0");
            for (int as = -2; as <= 7; as++) {
                int sound = kind == 1 ? 0 : 9;
                int want = as < 0 || as > 4 ? OUTSIDE : is[kind][as] ? sound : NOT;
                due(KINDS[kind] + " as " + as, x.as(0, as), want);
            }
            due("no band -1", x.as(-1, 0), UNKNOWN);
            due("no band 1", x.as(1, 0), UNKNOWN);
        }
    }

    // "it answers as what it is, whatever it is taken as"
    private static void asWhatItIs() {
        FlutePark x = told("walk 0 0;hedge 5;plain 5 9 0 11;brass 5 9 0 11;choir 5 9 0 11;drum 5 9 0 11");
        for (int hour = 0; hour < 12; hour++) {
            int choir = hour % 2 == 0 ? 4 : 0;
            due("plain as a band", x.as(0, 0), 4);
            due("plain as plain", x.as(0, 1), 4);
            due("brass as a band", x.as(1, 0), 0);
            due("brass as plain", x.as(1, 1), 0);
            due("brass as brass", x.as(1, 2), 0);
            due("choir as a band", x.as(2, 0), choir);
            due("choir as plain", x.as(2, 1), choir);
            due("choir as choir", x.as(2, 3), choir);
            due("drum as a band", x.as(3, 0), 9);
            due("drum as drum", x.as(3, 4), 9);
            x.step(0);
        }
    }

    // "its SOUND at its own PLACE in this HOUR"
    private static void asInThisHour() {
        FlutePark x = told("park 6 6;walk 0 0;plain 35 9 2 3;drum 0 8 11 11");
        for (int hour = 0; hour < 24; hour++) {
            int now = hour % 12;
            due("as in " + now, x.as(0, 0), now == 2 || now == 3 ? 9 : 0);
            due("as in " + now, x.as(1, 4), now == 11 ? 8 : 0);
            x.step(0);
        }
        stay(x, 0, 2);
        x.licence(0, 0);
        due("as without a licence", x.as(0, 1), 9);
    }

    // licence: "given (1) or taken (0): whether it had one. UNKNOWN; OUTSIDE"
    private static void licenceGivenOrTaken() {
        FlutePark x = told("plain 0 1 0 0;plain 0 1 0 0;plain 0 1 0 0;plain 0 1 0 0;plain 0 1 0 0;plain 0 1 0 0");
        for (int band = 0; band < 6; band++) {
            due("given already", x.licence(band, 1), 1);
            due("all", x.count(4), 63);
            due("taken", x.licence(band, 0), 1);
            due("all but it", x.count(4), 63 & ~(1 << band));
            due("taken already", x.licence(band, 0), 0);
            due("all but it", x.count(4), 63 & ~(1 << band));
            due("outside", x.licence(band, -1), OUTSIDE);
            due("outside", x.licence(band, 2), OUTSIDE);
            due("all but it", x.count(4), 63 & ~(1 << band));
            due("given", x.licence(band, 1), 0);
        }
        due("all", x.count(4), 63);
        due("no band -1", x.licence(-1, 0), UNKNOWN);
        due("no band 6", x.licence(6, 0), UNKNOWN);
        due("all", x.count(4), 63);
        for (int band = 0; band < 6; band++) {
            x.licence(band, 0);
        }
        due("none", x.count(4), 0);
        due("bands stay", x.count(3), 6);
    }

    // "SOUND of a BAND at a PLACE in an HOUR (0 .. 11; with or without a LICENCE)"
    private static void soundWithoutALicence() {
        FlutePark x = told("park 2 2;fall 1;plain 0 9 0 11");
        due("with", x.sound(0, 3, 11), 7);
        x.licence(0, 0);
        due("without", x.sound(0, 3, 11), 7);
        due("without", x.sound(0, 3, 0), 7);
        due("place -1", x.sound(0, -1, 0), UNKNOWN);
        due("place 4", x.sound(0, 4, 0), UNKNOWN);
        due("band -1", x.sound(-1, 0, 0), UNKNOWN);
        due("band 1", x.sound(1, 0, 0), UNKNOWN);
        due("hour -1", x.sound(0, 0, -1), OUTSIDE);
        due("hour 12", x.sound(0, 0, 12), OUTSIDE);
    }

    // "NOISE at a PLACE in an HOUR: SOUNDS of all BANDS with a LICENCE together"
    private static void noiseOfLicences() {
        FlutePark x = told("park 2 2;drum 3 1 0 0;drum 3 2 0 0;drum 3 4 0 0;drum 3 8 0 0;drum 3 16 0 0;drum 3 32 0 0");
        for (int set : new int[] {63, 62, 31, 33, 1, 32, 0}) {
            for (int band = 0; band < 6; band++) {
                x.licence(band, set >> band & 1);
            }
            due("noise of " + set, x.noise(3, 0), set);
            due("no noise in hour 1", x.noise(3, 1), 0);
        }
        due("place -1", x.noise(-1, 0), UNKNOWN);
        due("place 4", x.noise(4, 0), UNKNOWN);
        due("no bands", new FlutePark().noise(15, 11), 0);
        due("most noise", told("drum 0 99 0 0;drum 0 99 0 0;drum 0 99 0 0;drum 0 99 0 0;drum 0 99 0 0;drum 0 99 0 0")
                .noise(0, 0), 594);
    }

    // "THE FLUTE is HEARD there, if its SOUND is above NOISE"
    private static void heardAbove() {
        for (int loud = 48; loud <= 52; loud++) {
            int heard = loud < 50 ? 1 : 0;
            due("step by " + loud, told("walk 0 0;plain 0 " + loud + " 1 1").step(0), heard);
            due("first by " + loud, told("walk 0 0;plain 0 " + loud + " 1 1").first(0), heard == 1 ? NONE : 1);
            due("most by " + loud, told("walk 0 0;plain 0 " + loud + " 1 1").most(1), heard);
            due("stands by " + loud, told("park 2 2;walk 0 0;plain 0 " + loud + " 1 1").stands(0) & 1, heard);
            due("hedged by " + loud, told("walk 0 0;plain 0 " + loud + " 1 1").hedged(0), 1 - heard);
            due("way by " + loud, told("walk 0 0;plain 0 " + loud + " 0 0").way(0), heard == 1 ? 0 : NONE);
            due("wind by " + loud, told("plain 0 " + loud + " 1 1").wind(0, 1, 0, 0), heard);
            FlutePark x = told("plain 0 " + loud + " 1 1");
            x.seen(0, 1, 1);
            due("played by " + loud, x.played(0), 1 + heard);
        }
        due("two together: 49", told("walk 0 0;plain 0 25 1 1;drum 0 24 1 1").step(0), 1);
        due("two together: 50", told("walk 0 0;plain 0 25 1 1;drum 0 25 1 1").step(0), 0);
    }

    private static void heardByAFluteOfNone() {
        due("0 is not above 0", told("flute 0 0;walk 0 0").step(0), 0);
        due("1 is above 0", told("flute 0 1;walk 0 0").step(0), 1);
        due("0 by far", told("fall 5;flute 0 5;walk 1 1").step(1), 0);
        due("1 by far", told("fall 5;flute 0 6;walk 1 1").step(1), 1);
        due("first without bands", told("flute 0 0;walk 0 0").first(0), 0);
        due("most without bands", told("flute 0 0;walk 0 0").most(0), NONE);
        due("hedged without bands", told("flute 0 0;walk 0 0").hedged(0), NONE);
        due("way without bands", told("flute 0 0;walk 0 0").way(0), NONE);
        due("wind without bands, above", told("flute 0 0").wind(0, 0, 5, 0), 0);
        due("wind without bands, below", told("flute 0 0").wind(0, 0, 5, 1), 1);
    }

    // "It HOLDS, if it is HEARD at all PLACES of WALK in all HOURS 0 .. 11"
    private static void holdsInAllHours() {
        for (int hour = 0; hour < 12; hour++) {
            FlutePark x = told("walk 0 0;plain 0 50 " + hour + " " + hour);
            due("the hour", x.first(0), hour);
            due("the place", x.first(1), 0);
            due("the band", x.first(2), 0);
            due("most", x.most(1), 0);
            due("margin", x.margin(), 1000);
            tell(x, "still;plain 0 49 " + hour + " " + hour);
            due("it holds", x.first(0), NONE);
            due("most", x.most(1), 1);
            due("margin", x.margin(), 1001);
        }
    }

    private static void holdsAtAllPlacesOfWalk() {
        for (int place = 0; place < 36; place++) {
            // 9 at its own place, where the flute has 9 or 10; it is softer than the flute everywhere else.
            String walk = ";walk " + place + " " + place;
            FlutePark x = told("park 6 6;fall 9;flute " + place + " 9;plain " + place + " 9 3 3" + walk);
            due("the hour", x.first(0), 3);
            due("the place", x.first(1), place);
            due("it cannot stand there", x.stands(0) >> place & 1, 0);
            tell(x, "flute " + place + " 10");
            due("it holds", x.first(1), NONE);
            due("everywhere", x.stands(0), (1L << 36) - 1);
        }
        FlutePark y = told("park 6 6;fall 1;flute 0 50;plain 0 50 0 11;walk 0 35");
        due("not at 0", y.first(1), 0);
        // At 5, 7 and 8 the drum is one softer than the flute if it is of 47, at 4 too.
        FlutePark z = told("park 3 3;fall 1;flute 0 50;walk 0 3;walk 5 8;drum 4 47 0 0");
        due("47 to 46 at 5", z.first(1), NONE);
        tell(z, "still;drum 4 48 0 0");
        due("4 is not of walk; 47 to 47 at 5", z.first(1), 5);
        tell(z, "park 3 3;fall 1;flute 0 50;walk 0 3;drum 4 49 0 0");
        due("4 is not of walk; 49 to 48 at 1 and 3", z.first(1), NONE);
        tell(z, "walk 4 4");
        due("48 to 49 at 4", z.first(1), 4);
    }

    private static void holdsWithoutWalk() {
        FlutePark x = told("flute 0 0;plain 0 99 0 11;worth 0 7;brass 3 99 0 11");
        for (int what = 0; what < 3; what++) {
            due("first", x.first(what), NONE);
        }
        due("most worth", x.most(0), 8);
        due("most", x.most(1), 3);
        due("stands", x.stands(0), 65535);
        due("sides", x.sides(1), 15);
        due("how many hedges", x.hedged(0), 0);
        due("hedges", x.hedged(1), 0);
    }

    // "She STEPS to a PLACE of WALK that is next to hers (FAR 1), or stays"
    private static void stepFarOne() {
        for (int from = 0; from < 9; from++) {
            for (int to = 0; to < 9; to++) {
                FlutePark x = told("park 3 3;walk 0 8");
                // By columns first, then by rows.
                for (int i = 0; i < from % 3; i++) {
                    due("to the right", x.step(i + 1), 1);
                }
                for (int i = 0; i < from / 3; i++) {
                    due("down", x.step(from % 3 + 3 * (i + 1)), 1);
                }
                int hour = x.count(5);
                int far = Math.abs(from % 3 - to % 3) + Math.abs(from / 3 - to / 3);
                due(from + " to " + to, x.step(to), far <= 1 ? 1 : NOT);
                due("she is there", x.count(6), far <= 1 ? to : from);
                due("an hour goes by", x.count(5), far <= 1 ? hour + 1 : hour);
            }
        }
        FlutePark y = told("park 2 2;walk 0 3");
        due("-1", y.step(-1), UNKNOWN);
        due("4", y.step(4), UNKNOWN);
        due("3 is far 2", y.step(3), NOT);
        FlutePark z = told("park 6 6;walk 35 35;walk 29 34");
        due("she is at the least", z.count(6), 29);
        due("35 is below it", z.step(35), 1);
        due("36", z.step(36), UNKNOWN);
        due("30 is far 5", z.step(30), NOT);
    }

    // "NOT: .. not of WALK"
    private static void stepInTheWalk() {
        FlutePark x = told("park 3 3;walk 4 4");
        for (int place = 0; place < 9; place++) {
            due("from 4 to " + place, x.step(place), place == 4 ? 1 : NOT);
        }
        due("one hour", x.count(5), 1);
        tell(x, "walk 5 5;hedge 5");
        due("now 5 is; a hedge does not matter", x.step(5), 1);
        due("8 is not", x.step(8), NOT);
    }

    // "NOT: she is nowhere"
    private static void stepNowhere() {
        FlutePark x = new FlutePark();
        for (int place = -1; place <= 16; place++) {
            due("step " + place, x.step(place), place < 0 || place > 15 ? UNKNOWN : NOT);
            due("way " + place, x.way(place), place < 0 || place > 15 ? UNKNOWN : NOT);
        }
        due("hour", x.count(5), 0);
        due("nowhere", x.count(6), NONE);
    }

    // "an HOUR goes by (behind 11: 0)"
    private static void hourBehindEleven() {
        FlutePark x = told("walk 0 1;plain 0 50 0 0;drum 0 50 11 11");
        for (int i = 1; i <= 36; i++) {
            due("heard behind step " + i, x.step(i % 2), i % 12 == 0 || i % 12 == 11 ? 0 : 1);
            due("hour behind step " + i, x.count(5), i % 12);
        }
    }

    // "1 THE FLUTE is HEARD there then, 0"
    private static void heardThere() {
        // At 1, in hour 1 alone, the flute is not heard; at 0 it is not in hour 0 alone.
        FlutePark x = told("park 2 2;fall 1;walk 0 1;brass 0 50 1 1;side 0 1;plain 0 50 0 0");
        x.keep(0);
        due("there, then", x.step(1), 0);
        due("then again", x.step(1), 1);
        x.back(0);
        due("here, then", x.step(0), 1);
        due("there later", x.step(1), 1);
    }

    // "LICENCES, where she is, the HOUR are kept (k 0, 1): the HOUR. UNKNOWN: no such k"; "They are as they were kept"
    private static void keepAndBack() {
        FlutePark x = told("park 2 2;walk 0 3;plain 0 1 0 0;plain 0 1 0 0");
        due("keep -1", x.keep(-1), UNKNOWN);
        due("keep 2", x.keep(2), UNKNOWN);
        due("back -1", x.back(-1), UNKNOWN);
        due("back 2", x.back(2), UNKNOWN);
        due("back 0", x.back(0), NOT);
        due("back 1", x.back(1), NOT);
        due("keep 0 in hour 0", x.keep(0), 0);
        due("nothing at 1 yet", x.back(1), NOT);
        stay(x, 1, 1);
        stay(x, 3, 10);
        x.licence(0, 0);
        x.licence(1, 0);
        due("keep 1 in hour 11", x.keep(1), 11);
        due("back to 0", x.back(0), 0);
        due("licences", x.count(4), 3);
        due("hour", x.count(5), 0);
        due("where", x.count(6), 0);
        due("back to 1", x.back(1), 11);
        due("licences", x.count(4), 0);
        due("hour", x.count(5), 11);
        due("where", x.count(6), 3);
        due("the hour goes on from there", x.step(2), 1);
        due("behind 11", x.count(5), 0);
        due("back to 1 once more", x.back(1), 11);
        x.licence(1, 1);
        due("kept over", x.keep(1), 11);
        x.licence(1, 0);
        due("back to 1", x.back(1), 11);
        due("licences", x.count(4), 2);
        due("keep -1", x.keep(-1), UNKNOWN);
        due("back 2", x.back(2), UNKNOWN);
        due("hour", x.count(5), 11);
    }

    // "NOT: nothing was kept since the last text"
    private static void keptSinceTheLastText() {
        FlutePark x = new FlutePark();
        due("keep nowhere", x.keep(0), 0);
        due("back", x.back(0), 0);
        due("nowhere", x.count(6), NONE);
        x.write('x', 1);
        due("a text with a fault", x.park(), NOT);
        due("is none", x.back(0), 0);
        x.erase();
        due("back", x.back(0), 0);
        tell(x, "still");
        due("nothing kept", x.back(0), NOT);
        due("nothing kept", x.back(1), NOT);
        due("keep 1", x.keep(1), 0);
        due("nothing kept at 0", x.back(0), NOT);
        due("back 1", x.back(1), 0);
    }

    // "FIRST: the first HOUR, in it the least PLACE of WALK at which THE FLUTE is not HEARD"
    private static void firstHourThenPlace() {
        FlutePark x = told("park 2 2;fall 1;flute 0 50;walk 0 3;drum 0 50 5 5;drum 3 48 4 4;drum 3 47 3 3");
        for (int what = -2; what <= 4; what++) {
            int[] want = {4, 3, 1};
            due("first " + what, x.first(what), what < 0 || what > 2 ? OUTSIDE : want[what]);
        }
        stay(x, 0, 5);
        due("hours ahead of this one, too", x.first(0), 4);
        x.licence(1, 0);
        due("hour 5", x.first(0), 5);
        due("at 0: of four the least", x.first(1), 0);
        x.licence(0, 0);
        for (int what = 0; what <= 2; what++) {
            due("it holds", x.first(what), NONE);
        }
        tell(x, "park 6 6;fall 1;flute 35 1;walk 35 35;drum 35 1 11 11");
        due("the last hour", x.first(0), 11);
        due("the last place", x.first(1), 35);
        due("the band", x.first(2), 0);
    }

    // "the BAND with a LICENCE of most SOUND there; of several the least (none has SOUND: none)"
    private static void firstBand() {
        FlutePark x = told("walk 0 0;drum 0 20 0 0;drum 0 21 0 0;drum 0 21 0 0;drum 0 19 0 0;drum 0 98 1 1;drum 1 24 0 0");
        due("5 has 22 there", x.first(2), 5);
        x.licence(5, 0);
        due("of 1 and 2", x.first(2), 1);
        x.licence(1, 0);
        due("2", x.first(2), 2);
        due("in hour 0", x.first(0), 0);
        x.licence(2, 0);
        due("in hour 1", x.first(0), 1);
        due("4", x.first(2), 4);
        due("none has sound", told("flute 0 0;walk 0 0;drum 0 0 0 0;drum 0 9 1 1").first(2), NONE);
        due("none has sound: hour", told("flute 0 0;walk 0 0;drum 0 0 0 0;drum 0 9 1 1").first(0), 0);
        due("none has sound: place", told("flute 0 0;walk 0 0;drum 0 0 0 0;drum 0 9 1 1").first(1), 0);
        due("1 is a sound", told("flute 0 0;walk 0 0;drum 0 0 0 0;drum 0 1 0 0").first(2), 1);
        due("no bands", told("flute 0 0;walk 0 0").first(2), NONE);
    }

    // "MOST: the set of BANDS by whose LICENCES (and no others) it HOLDS and WORTH is most"
    private static void mostWorth() {
        String six = "drum 0 8 0 0;drum 0 8 0 0;drum 0 8 0 0;drum 0 8 0 0;drum 0 8 0 0;drum 0 8 0 0";
        int[] sets = {0, 1, 3, 7, 15, 31, 63};
        for (int bands = 0; bands <= 6; bands++) {
            // Of bands of 8 each as many can play as stay below.
            FlutePark x = told("walk 0 0;flute 0 " + (8 * bands + 1) + ";" + six);
            due("worth", x.most(0), bands);
            due("of several the least", x.most(1), sets[bands]);
            tell(x, "flute 0 " + (8 * bands + 8));
            due("8 more are not above 8 more", x.most(0), bands);
        }
        FlutePark y = told("drum 0 8 0 0;drum 0 8 0 0;drum 0 8 0 0;worth 0 99;worth 1 99;worth 2 99");
        due("no walk", y.most(0), 297);
        due("what -1", y.most(-1), OUTSIDE);
        due("what 2", y.most(2), OUTSIDE);
        for (int band = 0; band < 3; band++) {
            y.licence(band, 0);
        }
        due("whatever licences there are", y.most(1), 7);
        due("they stay", y.count(4), 0);
    }

    // "of several the least (bits)"
    private static void mostOfSeveral() {
        FlutePark x = told("walk 0 0;drum 0 30 0 0;drum 0 30 0 0;drum 0 30 1 1;worth 0 5;worth 1 5;worth 2 0");
        due("worth", x.most(0), 5);
        due("0 alone", x.most(1), 1);
        tell(x, "worth 1 6");
        due("1 alone", x.most(1), 2);
        tell(x, "worth 2 1");
        due("1 and 2", x.most(1), 6);
        tell(x, "worth 0 0;worth 1 0;worth 2 0");
        due("worth of none", x.most(0), 0);
        due("none of them", x.most(1), 0);
        tell(x, "worth 0 3;worth 1 1;worth 2 2");
        due("0 and 2", x.most(1), 5);
    }

    // "none: by none of them either"
    private static void mostNone() {
        due("flute 0", told("flute 0 0;walk 0 0;drum 0 0 0 0").most(0), NONE);
        due("flute 0", told("flute 0 0;walk 0 0;drum 0 0 0 0").most(1), NONE);
        due("flute 1", told("flute 0 1;walk 0 0;drum 0 1 0 0").most(0), 0);
        due("flute 1", told("flute 0 1;walk 0 0;drum 0 1 0 0").most(1), 0);
        due("a band of 0", told("flute 0 1;walk 0 0;drum 0 0 0 0").most(1), 1);
        due("no bands", told("walk 0 0").most(0), 0);
        due("no bands", told("walk 0 0").most(1), 0);
    }

    // "STANDS of a BAND: PLACES at which it HOLDS, all else as it is, .. by bits"
    private static void standsAtPlaces() {
        FlutePark x = told("park 6 6;fall 9;flute 0 30;walk 0 0;drum 14 39 0 0;plain 35 0 0 0");
        // 30 at 0 is not above 39 at 0, nor above 30 at 1 and 6, but above 21 farther off.
        due("but for 0, 1, 6", x.stands(0), (1L << 36) - 1 & ~(1L | 1L << 1 | 1L << 6));
        due("a band of 0", x.stands(1), (1L << 36) - 1);
        due("-1", x.stands(-1), UNKNOWN);
        due("2", x.stands(2), UNKNOWN);
        tell(x, "flute 0 31");
        due("but for 0", x.stands(0), (1L << 36) - 2);
        tell(x, "flute 0 0");
        due("nowhere", x.stands(0), 0);
        tell(x, "park 6 6;fall 9;flute 35 10;walk 35 35;drum 35 10 0 0");
        due("but for 35", x.stands(0), (1L << 35) - 1);
        FlutePark y = told("park 2 2;fall 9;flute 0 30;walk 0 3;brass 0 60 0 0;side 0 1");
        // Nothing is to the right of 1 and 3.
        due("brass with its side", y.stands(0), 10);
        tell(y, "side 0 0");
        due("brass with its side", y.stands(0), 3);
        FlutePark z = told("park 2 2;fall 1;flute 0 50;walk 0 0;plain 0 99 0 0;hedge 0;hedge 2");
        due("hedges as they are: 49 at 0, 98 at 1, 49 at 2, 97 at 3", z.stands(0), 5);
    }

    // "with its LICENCE"
    private static void standsWithItsLicence() {
        FlutePark x = told("park 2 2;fall 1;flute 0 50;walk 0 0;drum 0 50 0 0;drum 3 50 0 0");
        x.licence(0, 0);
        x.licence(1, 0);
        due("49 at 1 and 2, 48 at 3", x.stands(0), 14);
        due("its licence is not given", x.count(4), 0);
        x.licence(1, 1);
        due("with the other", x.stands(0), 0);
        due("without the other", x.stands(1), 14);
        due("its place stays", x.band(1, 1), 3);
        due("licences stay", x.count(4), 2);
    }

    // "SIDES likewise of a BRASS one"; "NOT: it is no BRASS one"
    private static void sidesOfBrass() {
        FlutePark x = told("park 3 3;fall 1;flute 4 50;walk 0 8;brass 4 49 0 0;plain 0 1 5 5;choir 0 1 5 5;drum 0 1 5 5");
        due("to all sides", x.sides(0), 15);
        for (int band = 1; band <= 3; band++) {
            due("no brass", x.sides(band), NOT);
        }
        due("-1", x.sides(-1), UNKNOWN);
        due("4", x.sides(4), UNKNOWN);
        tell(x, "still;brass 4 50 0 0");
        due("to none", x.sides(0), 0);
        int[] only = {14, 13, 11, 7};
        int[] walks = {1, 5, 7, 3};
        for (int side = 0; side < 4; side++) {
            FlutePark y = told("park 3 3;fall 1;flute 4 50;walk 4 4;brass 4 50 0 0;walk " + walks[side] + " " + walks[side]);
            due("all but " + side, y.sides(0), only[side]);
            y.licence(0, 0);
            due("with its licence", y.sides(0), only[side]);
            due("it is not given", y.count(4), 0);
            due("its side stays", y.band(0, 6), 0);
        }
    }

    // "HEDGED: the fewest HEDGES more, at PLACES of BANDS, by which it HOLDS; .. none"
    private static void fewestHedges() {
        // Each band has 10 at place 0, and 5 by a hedge.
        String bands = ";plain 0 10 0 0;plain 1 11 0 0;plain 2 12 0 0;plain 3 13 0 0;plain 4 14 0 0;plain 5 15 0 0";
        for (int flute = 28; flute <= 64; flute++) {
            FlutePark x = told("park 6 2;fall 1;walk 0 0;flute 0 " + flute + bands);
            int more = 0;
            while (more <= 6 && 60 - 5 * more >= flute) {
                more++;
            }
            due("how many by " + flute, x.hedged(0), more > 6 ? NONE : more);
            due("which by " + flute, x.hedged(1), more > 6 ? NONE : (1 << more) - 1);
        }
        FlutePark y = told("park 6 2;fall 1;walk 0 0;flute 0 31;hedge 3" + bands);
        due("one is there", y.hedged(0), 5);
        due("not that one", y.hedged(1), 63 & ~8);
        due("-1", y.hedged(-1), OUTSIDE);
        due("2", y.hedged(2), OUTSIDE);
        due("no hedge by that", y.place(0, 1), 0);
        tell(y, "park 6 6;fall 1;walk 35 35;flute 35 50;plain 35 99 0 0");
        due("at 35", y.hedged(1), 1L << 35);
        due("one", y.hedged(0), 1);
        tell(y, "flute 35 49");
        due("not above 49", y.hedged(0), NONE);
        due("not above 49", y.hedged(1), NONE);
        due("a drum", told("walk 0 0;drum 0 50 0 0").hedged(0), NONE);
        due("a hedge is there", told("walk 0 0;plain 0 99 0 0;hedge 0;drum 0 1 0 0").hedged(0), NONE);
        due("two by one", told("walk 0 0;plain 0 49 0 0;choir 0 49 0 0").hedged(0), 1);
        due("two by one", told("walk 0 0;plain 0 50 0 0;choir 0 50 0 0").hedged(0), NONE);
    }

    // "of several sets of PLACES that of the least sum of bits"
    private static void hedgesOfSeveral() {
        // 20 each at 0: two of three hedges are needed, whichever.
        FlutePark x = told("park 6 2;fall 1;walk 0 0;flute 0 41;plain 5 25 0 0;plain 3 23 0 0;plain 1 21 0 0");
        due("two", x.hedged(0), 2);
        due("1 and 3", x.hedged(1), 10);
        tell(x, "still;plain 5 25 0 0;plain 3 43 0 0;plain 1 21 0 0;flute 0 61");
        due("one: 3 alone is enough", x.hedged(1), 8);
        tell(x, "flute 0 51");
        due("two: 3 with 1, not with 5", x.hedged(1), 10);
        x.licence(2, 0);
        due("one by licences", x.hedged(1), 8);
        tell(x, "still;plain 5 25 0 0;plain 1 21 0 0;plain 3 43 0 0;flute 0 61");
        due("one, not two that come ahead of it", x.hedged(1), 8);
    }

    // "MARGIN: the least of SOUND of THE FLUTE less NOISE over WALK and HOURS"; "MARGIN, and 1000"
    private static void marginLeast() {
        due("no bands", told("walk 0 0").margin(), 1050);
        due("the farthest", told("walk 0 15").margin(), 1038);
        due("99", told("flute 0 99;walk 0 0").margin(), 1099);
        due("0", told("flute 0 0;walk 0 0").margin(), 1000);
        due("1", told("walk 0 0;drum 0 49 7 7").margin(), 1001);
        due("0", told("walk 0 0;drum 0 50 7 7").margin(), 1000);
        due("-1", told("walk 0 0;drum 0 51 7 7").margin(), 999);
        due("the least of all", told("flute 0 0;walk 0 0;drum 0 99 11 11;drum 0 99 11 11;drum 0 99 11 11;drum 0 99 11 11;"
                + "drum 0 99 11 11;drum 0 99 11 11").margin(), 406);
        FlutePark x = told("walk 0 0;drum 0 20 0 0;drum 0 30 11 11;drum 0 10 5 5");
        due("hour 11", x.margin(), 1020);
        x.licence(1, 0);
        due("hour 0", x.margin(), 1030);
        x.licence(0, 0);
        due("hour 5", x.margin(), 1040);
    }

    // "(NONE of WALK: 999)"
    private static void marginOfNoWalk() {
        due("a new park", new FlutePark().margin(), 1999);
        due("a loud band", told("flute 0 0;drum 0 99 0 11").margin(), 1999);
        FlutePark x = told("walk 15 15");
        due("one of walk", x.margin(), 1038);
        due("a park again", tell(x, "park 4 4").margin(), 1999);
    }

    // "PRICE of a BAND: by how much MARGIN is greater without its LICENCE than with it"
    private static void price() {
        FlutePark x = told("walk 0 0;drum 0 30 0 0;drum 0 40 1 1;drum 0 0 1 1;drum 0 15 0 0");
        // 45 in hour 0, 40 in hour 1.
        int[] want = {5, 0, 0, 5};
        for (int set = 0; set < 2; set++) {
            for (int band = 0; band < 4; band++) {
                due("price of " + band, x.price(band), want[band]);
            }
            due("margin", x.margin(), 1005);
        }
        due("-1", x.price(-1), UNKNOWN);
        due("4", x.price(4), UNKNOWN);
        x.licence(0, 0);
        due("with it or without it, the same", x.price(0), 5);
        due("now 15 and 40", x.price(1), 25);
        due("licences stay", x.count(4), 14);
        due("no walk", told("drum 0 99 0 11").price(0), 0);
        due("the greatest", told("walk 0 0;drum 0 99 0 0").price(0), 99);
        due("of 0", told("walk 0 0;drum 0 0 0 0").price(0), 0);
        due("of 1", told("walk 0 0;drum 0 1 0 0").price(0), 1);
    }

    // "WAY to a PLACE: the fewest HOURS by which she is there"
    private static void wayHere() {
        FlutePark x = told("park 6 6;fall 1;walk 0 35");
        for (int place = 0; place < 36; place++) {
            due("way to " + place, x.way(place), place % 6 + place / 6);
        }
        due("-1", x.way(-1), UNKNOWN);
        due("36", x.way(36), UNKNOWN);
        due("she is where she was", x.count(6), 0);
        due("it is the hour that it was", x.count(5), 0);
        FlutePark y = told("park 3 3;walk 0 0;walk 4 4;walk 2 3");
        int[] want = {0, NONE, NONE, 1, 2, NONE, NONE, NONE, NONE};
        for (int place = 0; place < 9; place++) {
            due("in a walk with gaps, to " + place, y.way(place), want[place]);
        }
    }

    // "so that THE FLUTE is HEARD where she is in each HOUR (now, too)"
    private static void wayHeardInEachHour() {
        FlutePark x = told("park 2 2;fall 1;walk 0 1;plain 0 50 0 0");
        due("not now", x.way(0), NONE);
        due("not now", x.way(1), NONE);
        tell(x, "still;plain 0 49 0 0");
        due("now", x.way(0), 0);
        due("now", x.way(1), 1);
        tell(x, "still;plain 0 50 1 1");
        due("now", x.way(0), 0);
        due("neither here nor there in hour 1", x.way(1), NONE);
        tell(x, "still;brass 0 50 1 1;side 0 1");
        due("not there in hour 1", x.way(1), 2);
        tell(x, "still;brass 0 49 1 1;side 0 1");
        due("there in hour 1", x.way(1), 1);
        tell(x, "still;brass 1 50 1 1;side 0 3");
        due("not here in hour 1", x.way(1), 1);
        tell(x, "still;brass 0 50 1 11;side 0 1");
        due("there in hour 0", x.way(1), 12);
        tell(x, "still;brass 0 50 0 11;side 0 1");
        due("there never", x.way(1), NONE);
        x.licence(0, 0);
        due("without a licence", x.way(1), 1);
    }

    private static void wayThroughHours() {
        FlutePark x = told("park 2 2;fall 1;walk 0 1;brass 0 50 0 10;side 0 1");
        for (int hour = 0; hour <= 10; hour++) {
            due("in hour " + hour, x.way(1), 11 - hour);
            x.step(0);
        }
        due("in hour 11", x.way(1), 12);
        x.step(0);
        due("in hour 0 again", x.way(1), 11);
        due("it is hour 0", x.count(5), 0);
    }

    // "none: not in 99"
    private static void wayInNinetyNine() {
        FlutePark x = told("park 6 6;fall 8;flute 21 88;brass 12 77 1 11;plain 28 55 2 11;side 0 1;"
                + "walk 0 2;walk 8 11;walk 17 21;walk 23 30;walk 32 35");
        due("in 98", x.way(18), 98);
        due("in 99", x.way(24), 99);
        due("in 100", x.way(30), NONE);
        x.step(0);
        due("in 97", x.way(18), 97);
        due("in 98", x.way(24), 98);
        due("in 99", x.way(30), 99);
    }

    private static void dueWind(FlutePark x, int hour, int p, int above, int below) {
        due("wind above, p " + p, x.wind(0, hour, p, 0), above);
        due("wind below, p " + p, x.wind(0, hour, p, 1), below);
    }

    // "doubled there by p tenths (0 .. 10)"; "Parts are told in lowest terms: above (part 0), below (1)"
    private static void windByTenths() {
        FlutePark x = told("flute 0 30;drum 0 15 0 0");
        int[] above = {1, 9, 4, 7, 3, 1, 2, 3, 1, 1, 0};
        int[] below = {1, 10, 5, 10, 5, 2, 5, 10, 5, 10, 1};
        for (int p = -2; p <= 12; p++) {
            boolean bad = p < 0 || p > 10;
            dueWind(x, 0, p, bad ? OUTSIDE : above[p], bad ? OUTSIDE : below[p]);
        }
        for (int part = -2; part <= 3; part++) {
            due("part " + part, x.wind(0, 0, 2, part), part == 0 ? 4 : part == 1 ? 5 : OUTSIDE);
        }
        due("hour -1", x.wind(0, -1, 2, 0), OUTSIDE);
        due("hour 12", x.wind(0, 12, 2, 0), OUTSIDE);
        due("hour 11", x.wind(0, 11, 2, 0), 1);
        due("place -1", x.wind(-1, 0, 2, 0), UNKNOWN);
        due("place 16", x.wind(16, 0, 2, 0), UNKNOWN);
        due("place 15", x.wind(15, 0, 10, 0), 1);
    }

    /** A sound that is as loud as the flute, doubled or not. */
    private static void windDoubledIsNotAbove() {
        for (int p = 0; p <= 10; p++) {
            dueWind(told("flute 0 31;drum 0 15 0 0"), 0, p, 1, 1);
            dueWind(told("flute 0 15;drum 0 15 0 0"), 0, p, 0, 1);
            dueWind(told("flute 0 15;drum 0 15 0 0"), 1, p, 1, 1);
            dueWind(told("flute 0 1"), 0, p, 1, 1);
            dueWind(told("flute 0 0"), 0, p, 0, 1);
        }
        dueWind(told("flute 0 30;drum 0 15 0 0"), 0, 5, 1, 2);
        dueWind(told("flute 0 16;drum 0 15 0 0"), 0, 5, 1, 2);
    }

    // "by itself": each of six
    private static void windOfSix() {
        String six = ";drum 0 8 0 0;drum 0 8 0 0;drum 0 8 0 0;drum 0 8 0 0;drum 0 8 0 0;drum 0 8 0 0";
        FlutePark x = told("flute 0 48" + six);
        dueWind(x, 0, 0, 0, 1);
        tell(x, "flute 0 49");
        dueWind(x, 0, 0, 1, 1);
        dueWind(x, 0, 1, 531441, 1000000);
        dueWind(x, 0, 9, 1, 1000000);
        dueWind(x, 0, 10, 0, 1);
        dueWind(x, 0, 5, 1, 64);
        tell(x, "flute 0 56");
        dueWind(x, 0, 5, 1, 64);
        tell(x, "flute 0 57");
        dueWind(x, 0, 5, 7, 64);
        tell(x, "flute 0 96");
        dueWind(x, 0, 1, 999999, 1000000);
        dueWind(x, 0, 9, 468559, 1000000);
        dueWind(x, 0, 5, 63, 64);
        dueWind(x, 0, 10, 0, 1);
        tell(x, "flute 0 97");
        dueWind(x, 0, 10, 1, 1);
        dueWind(x, 0, 3, 1, 1);
    }

    // "SOUND of each BAND with a LICENCE"
    private static void windOfLicences() {
        FlutePark x = told("flute 0 30;drum 0 15 0 0;drum 0 29 0 0;drum 0 29 1 1");
        dueWind(x, 0, 3, 0, 1);
        x.licence(1, 0);
        dueWind(x, 0, 3, 7, 10);
        x.licence(2, 0);
        dueWind(x, 0, 3, 7, 10);
        x.licence(0, 0);
        dueWind(x, 0, 3, 1, 1);
        x.licence(1, 1);
        dueWind(x, 0, 3, 7, 10);
    }

    // "SEEN, 8 at most"; seen: "how many .. FULL"; forget: "how many there were"
    private static void eightSeen() {
        FlutePark x = told("park 2 2");
        due("forget nothing", x.forget(), 0);
        for (int i = 1; i <= 10; i++) {
            due("sighting " + i, x.seen(i % 4, i, i % 2), i <= 8 ? i : FULL);
            due("how many", x.count(7), Math.min(i, 8));
        }
        due("forget 8", x.forget(), 8);
        due("none", x.count(7), 0);
        due("forget again", x.forget(), 0);
        due("one", x.seen(3, 11, 1), 1);
        due("the same", x.seen(3, 11, 1), 2);
        due("forget 2", x.forget(), 2);
    }

    /** All eight count, the first and the last of them too. */
    private static void seenOrNot() {
        for (int last = 0; last < 8; last++) {
            FlutePark x = told("drum 0 50 11 11");
            for (int i = 0; i < 8; i++) {
                due("sighting", x.seen(0, 11, i == last ? 0 : 1), i + 1);
            }
            due("one of them is another", x.played(0), 0);
        }
        FlutePark y = told("park 2 2;drum 0 50 0 0;drum 0 50 11 11");
        due("place -1", y.seen(-1, 0, 0), UNKNOWN);
        due("place 4", y.seen(4, 0, 0), UNKNOWN);
        due("hour -1", y.seen(0, -1, 0), OUTSIDE);
        due("hour 12", y.seen(0, 12, 0), OUTSIDE);
        due("heard -1", y.seen(0, 0, -1), OUTSIDE);
        due("heard 2", y.seen(0, 0, 2), OUTSIDE);
        due("none", y.count(7), 0);
        due("hour 0, not heard", y.seen(0, 0, 0), 1);
        due("0", y.played(1), 1);
        due("hour 11, heard, at the last place", y.seen(3, 11, 1), 2);
        due("0 alone or not: 44 are not above 46", y.played(0), 1);
        y.forget();
        due("hour 11, not heard", y.seen(0, 11, 0), 1);
        due("1", y.played(1), 2);
        // 50 to 27 at 0, 32 to 45 at 3.
        FlutePark z = told("park 2 2;fall 9;drum 3 45 0 0");
        due("not heard at the last place", z.seen(3, 0, 0), 1);
        due("by the drum", z.played(1), 1);
        due("heard at the first", z.seen(0, 0, 1), 2);
        due("by the drum", z.played(0), 1);
        due("not heard at the first", z.seen(0, 0, 0), 3);
        due("by nothing", z.played(0), 0);
    }

    // "PLAYED: sets of BANDS by which all is so, if they and no others played: how many; those that are in all of them";
    // "NONE: there is none"
    private static void playedSets() {
        FlutePark x = new FlutePark();
        due("no bands, nothing seen", x.played(0), 1);
        due("no bands, nothing seen", x.played(1), 0);
        x.seen(0, 0, 0);
        due("no bands, not heard", x.played(0), 0);
        due("no bands, not heard", x.played(1), NONE);
        due("what -1", x.played(-1), OUTSIDE);
        due("what 2", x.played(2), OUTSIDE);
        String six = ";drum 0 9 0 0;drum 0 9 0 0;drum 0 9 0 0;drum 0 9 0 0;drum 0 9 0 0;drum 0 9 0 0";
        int[] sets = {64, 63, 57, 42, 22, 7, 1, 0};
        for (int bands = 0; bands <= 7; bands++) {
            // Not heard: so many at least.
            FlutePark y = told("flute 0 " + 9 * bands + six);
            for (int band = 0; band < 6; band++) {
                y.licence(band, 0);
            }
            due("nothing seen", y.played(0), 64);
            due("nothing seen", y.played(1), 0);
            due("not heard", y.seen(0, 0, 0), 1);
            due("so many at least", y.played(0), sets[bands]);
            due("in all of them", y.played(1), bands < 6 ? 0 : bands == 6 ? 63 : NONE);
            y.forget();
            due("heard", y.seen(0, 0, 1), 1);
            due("fewer", y.played(0), 64 - sets[bands]);
            due("in all of them", y.played(1), bands == 0 ? NONE : 0);
            due("heard and not heard", y.seen(0, 0, 0), 2);
            due("none", y.played(0), 0);
            due("none", y.played(1), NONE);
        }
    }

    // count: "0 columns .. 8 bytes of THE TEXT. OUTSIDE"
    private static void countWhat() {
        FlutePark x = told("park 6 5;fall 9;walk 29 29;drum 0 1 0 0;drum 0 1 0 0;drum 0 1 0 0");
        x.licence(0, 0);
        stay(x, 29, 7);
        x.seen(0, 0, 0);
        x.seen(0, 0, 0);
        x.write(0, 8);
        int[] want = {6, 5, 9, 3, 6, 7, 29, 2, 8};
        for (int what = -2; what <= 11; what++) {
            due("count " + what, x.count(what), what < 0 || what > 8 ? OUTSIDE : want[what]);
        }
    }

    // "An object is used for at most 512 calls after it has been made"
    private static void fiveHundredAndTwelveCalls() {
        FlutePark x = new FlutePark();
        String text = "walk 0 0;plain 0 50 7 7";
        for (int i = 0; i < text.length(); i++) {
            x.write(text.charAt(i), 1);
        }
        x.park();
        for (int call = text.length() + 2; call < 512; call++) {
            int hour = (call - text.length() - 1) % 12;
            due("step as call " + call, x.step(0), hour == 7 ? 0 : 1);
        }
        due("the hour as call 512", x.count(5), (511 - text.length() - 1) % 12);
    }
}
