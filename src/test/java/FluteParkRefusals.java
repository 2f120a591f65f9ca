/**
 * Calls that are refused: which refusal comes first ("UNKNOWN .., OUTSIDE .., NOT .., FULL: the first of these that
 * fits"), and that nothing changes by them ("Refused, and nothing changes"), nor by what only asks or foretells
 * ("FORETOLD (nothing changes)").
 *
 * Each call is made on one of two objects that are alike; behind it both must still answer all calls alike.
 */
public final class FluteParkRefusals {
    private static final int UNKNOWN = -2;
    private static final int OUTSIDE = -3;
    private static final int NOT = -4;
    private static final int FULL = -5;
    private static final int LEAST = Integer.MIN_VALUE;
    private static final int GREATEST = Integer.MAX_VALUE;

    private static int wrong = 0;

    private interface Call {
        long on(FlutePark x);
    }

    private interface State {
        FlutePark make();
    }

    private static void due(String call, long got, long want) {
        if (got != want) {
            wrong++;
            System.out.println(call + " answered " + got + ", due is " + want);
        }
    }

    private static void write(FlutePark x, String text) {
        for (int i = 0; i < text.length(); i += 8) {
            int n = Math.min(8, text.length() - i);
            long bytes = 0;
            for (int b = 0; b < n; b++) {
                bytes |= (long) text.charAt(i + b) << 8 * b;
            }
            x.write(bytes, n);
        }
    }

    private static FlutePark told(String text) {
        FlutePark x = new FlutePark();
        write(x, text);
        due("park of '" + text + "'", x.park(), text.split(";").length);
        return x;
    }

    /** Bands of three kinds, two with a licence; she is at 1 in hour 4; 0 is kept, 1 is not; a text has a fault. */
    private static FlutePark inTheMidst() {
        FlutePark x = told("park 2 2;fall 3;flute 0 30;walk 0 1;walk 2 2;hedge 2;plain 2 25 0 4;brass 0 20 3 9;drum 3 9 2 11");
        x.step(1);
        x.licence(2, 0);
        x.keep(0);
        x.licence(0, 0);
        x.licence(2, 1);
        x.step(0);
        x.step(0);
        x.step(1);
        x.seen(0, 3, 1);
        x.seen(3, 4, 0);
        write(x, "fall 5;gate");
        return x;
    }

    /** Six bands, eight sightings, both kept, a text of 200 bytes without a fault. */
    private static FlutePark full() {
        FlutePark x = told("park 2 2;walk 0 3;plain 0 9 0 4;brass 1 20 3 9;drum 2 9 2 11;choir 3 9 0 11;plain 3 9 9 9;"
                + "drum 1 9 1 1");
        for (int i = 0; i < 8; i++) {
            x.seen(i % 4, i, i == 3 ? 0 : 1);
        }
        x.keep(0);
        x.step(1);
        x.keep(1);
        x.step(3);
        write(x, "fall 5" + " ".repeat(194));
        return x;
    }

    /** A band, but no walk and nothing kept; a text that wants more. */
    private static FlutePark nowhere() {
        FlutePark x = told("park 2 2;drum 3 60 2 11");
        x.seen(3, 2, 0);
        write(x, "fall");
        return x;
    }

    private static void tell(StringBuilder all, long answer) {
        all.append(answer).append(' ');
    }

    private static void tellWho(FlutePark x, StringBuilder all) {
        for (int what = 0; what <= 8; what++) {
            tell(all, x.count(what));
        }
    }

    private static void tellPark(FlutePark x, StringBuilder all) {
        for (int place = 0; place < 4; place++) {
            for (int what = 0; what < 4; what++) {
                tell(all, x.place(place, what));
            }
            tell(all, x.noise(place, 3));
            tell(all, x.way(place));
            tell(all, x.wind(place, 4, 3, 0));
        }
        for (int band = 0; band < 6; band++) {
            for (int what = 0; what < 8; what++) {
                tell(all, x.band(band, what));
            }
            tell(all, x.as(band, 0));
            tell(all, x.price(band));
            tell(all, x.stands(band));
        }
    }

    /** All that can be asked, and then what was kept and seen and written, which changes by asking. */
    private static String allOf(FlutePark x) {
        StringBuilder all = new StringBuilder();
        tellWho(x, all);
        tellPark(x, all);
        tell(all, x.fault());
        tell(all, x.first(0));
        tell(all, x.most(1));
        tell(all, x.hedged(1));
        tell(all, x.margin());
        tell(all, x.played(0));
        tell(all, x.played(1));
        for (int k = 0; k < 2; k++) {
            tell(all, x.back(k));
            tellWho(x, all);
            tell(all, x.step(1));
        }
        tell(all, x.seen(0, 0, 1));
        tell(all, x.write(';', 1));
        tell(all, x.fault());
        tell(all, x.forget());
        tell(all, x.erase());
        return all.toString();
    }

    private static void changesNothing(String name, State state, Call call) {
        FlutePark x = state.make();
        FlutePark twin = state.make();
        call.on(x);
        String got = allOf(x);
        String want = allOf(twin);
        if (!got.equals(want)) {
            wrong++;
            System.out.println(name + " changed something:\n  " + got + "\n  " + want);
        }
    }

    private static void refused(String name, State state, int want, Call call) {
        due(name, call.on(state.make()), want);
        changesNothing(name, state, call);
    }

    private static void midst(String name, int want, Call call) {
        refused("in the midst: " + name, FluteParkRefusals::inTheMidst, want, call);
    }

    private static void full(String name, int want, Call call) {
        refused("all full: " + name, FluteParkRefusals::full, want, call);
    }

    private static void nowhere(String name, int want, Call call) {
        refused("nowhere: " + name, FluteParkRefusals::nowhere, want, call);
    }

    public static void main(String[] args) {
        statesAreAsTold();
        texts();
        places();
        bands();
        kinds();
        licences();
        sounds();
        noises();
        steps();
        kept();
        whats();
        bandsForetold();
        ways();
        winds();
        sightings();
        askedAndForetold();
        nothingThrows();
        System.out.println(wrong == 0 ? "all answers are as due" : wrong + " answers are not as due");
        if (wrong != 0) {
            System.exit(1);
        }
    }

    /** What the tests below lean on. */
    private static void statesAreAsTold() {
        int[][] want = {{2, 2, 3, 3, 6, 4, 1, 2, 11}, {2, 2, 2, 6, 63, 2, 3, 8, 200}, {2, 2, 2, 1, 1, 0, -1, 1, 4}};
        FlutePark[] states = {inTheMidst(), full(), nowhere()};
        for (int i = 0; i < states.length; i++) {
            for (int what = 0; what < 9; what++) {
                due("state " + i + " count " + what, states[i].count(what), want[i][what]);
            }
        }
    }

    // write: "OUTSIDE; FULL"; park: "NOT: it has a FAULT"
    private static void texts() {
        for (int n : new int[] {0, 9, -1, LEAST, GREATEST}) {
            midst("write n " + n, OUTSIDE, x -> x.write(0x2020202020202020L, n));
            full("write n " + n, OUTSIDE, x -> x.write(0x2020202020202020L, n));
        }
        for (int n = 1; n <= 8; n++) {
            int bytes = n;
            full("write n " + n, FULL, x -> x.write(0x2020202020202020L, bytes));
        }
        midst("park", NOT, FlutePark::park);
        nowhere("park", NOT, FlutePark::park);
    }

    // place: "UNKNOWN; OUTSIDE"
    private static void places() {
        for (int place : new int[] {-1, 4, 36, 64, LEAST, GREATEST}) {
            for (int what : new int[] {-1, 0, 1, 2, 3, 4}) {
                midst("place " + place + " " + what, UNKNOWN, x -> x.place(place, what));
            }
        }
        for (int what : new int[] {-1, 4, LEAST, GREATEST}) {
            midst("place 0 " + what, OUTSIDE, x -> x.place(0, what));
            midst("place 3 " + what, OUTSIDE, x -> x.place(3, what));
        }
    }

    // band: "UNKNOWN; OUTSIDE"
    private static void bands() {
        for (int band : new int[] {-1, 3, 5, 6, 32, LEAST, GREATEST}) {
            for (int what : new int[] {-1, 0, 7, 8}) {
                midst("band " + band + " " + what, UNKNOWN, x -> x.band(band, what));
            }
        }
        for (int what : new int[] {-1, 8, LEAST, GREATEST}) {
            midst("band 0 " + what, OUTSIDE, x -> x.band(0, what));
            midst("band 2 " + what, OUTSIDE, x -> x.band(2, what));
        }
        full("band 6", UNKNOWN, x -> x.band(6, 0));
    }

    // as: "UNKNOWN; OUTSIDE; NOT: it is none such"
    private static void kinds() {
        for (int kind : new int[] {-1, 0, 1, 2, 3, 4, 5, LEAST, GREATEST}) {
            midst("as -1 " + kind, UNKNOWN, x -> x.as(-1, kind));
            midst("as 3 " + kind, UNKNOWN, x -> x.as(3, kind));
        }
        for (int kind : new int[] {-1, 5, LEAST, GREATEST}) {
            for (int band = 0; band < 3; band++) {
                int which = band;
                midst("as " + band + " " + kind, OUTSIDE, x -> x.as(which, kind));
            }
        }
        int[][] none = {{0, 2}, {0, 3}, {0, 4}, {1, 3}, {1, 4}, {2, 1}, {2, 2}, {2, 3}};
        for (int[] pair : none) {
            midst("as " + pair[0] + " " + pair[1], NOT, x -> x.as(pair[0], pair[1]));
        }
    }

    // licence: "UNKNOWN; OUTSIDE"
    private static void licences() {
        for (int band : new int[] {-1, 3, 32, LEAST, GREATEST}) {
            for (int is : new int[] {-1, 0, 1, 2}) {
                midst("licence " + band + " " + is, UNKNOWN, x -> x.licence(band, is));
            }
        }
        for (int is : new int[] {-1, 2, LEAST, GREATEST}) {
            midst("licence 0 " + is, OUTSIDE, x -> x.licence(0, is));
            midst("licence 2 " + is, OUTSIDE, x -> x.licence(2, is));
        }
    }

    // sound: "UNKNOWN; OUTSIDE"
    private static void sounds() {
        for (int hour : new int[] {-1, 0, 11, 12}) {
            midst("sound of -1", UNKNOWN, x -> x.sound(-1, 0, hour));
            midst("sound of 3", UNKNOWN, x -> x.sound(3, 0, hour));
            midst("sound at -1", UNKNOWN, x -> x.sound(0, -1, hour));
            midst("sound at 4", UNKNOWN, x -> x.sound(0, 4, hour));
            midst("sound of 3 at 4", UNKNOWN, x -> x.sound(3, 4, hour));
        }
        for (int hour : new int[] {-1, 12, LEAST, GREATEST}) {
            midst("sound in " + hour, OUTSIDE, x -> x.sound(0, 0, hour));
            midst("sound of 2 at 3 in " + hour, OUTSIDE, x -> x.sound(2, 3, hour));
        }
    }

    // noise: "UNKNOWN; OUTSIDE"
    private static void noises() {
        for (int hour : new int[] {-1, 0, 11, 12}) {
            midst("noise at -1", UNKNOWN, x -> x.noise(-1, hour));
            midst("noise at 4", UNKNOWN, x -> x.noise(4, hour));
        }
        for (int hour : new int[] {-1, 12, LEAST, GREATEST}) {
            midst("noise in " + hour, OUTSIDE, x -> x.noise(3, hour));
        }
    }

    // step: "UNKNOWN; NOT: she is nowhere, it is not next to hers, not of WALK"
    private static void steps() {
        for (int place : new int[] {-1, 4, 36, 64, 65, LEAST, GREATEST}) {
            midst("step " + place, UNKNOWN, x -> x.step(place));
            full("step " + place, UNKNOWN, x -> x.step(place));
            nowhere("step " + place, UNKNOWN, x -> x.step(place));
        }
        midst("step 2, of walk but not next", NOT, x -> x.step(2));
        midst("step 3, next but not of walk", NOT, x -> x.step(3));
        full("step 0, not next", NOT, x -> x.step(0));
        for (int place = 0; place < 4; place++) {
            int to = place;
            nowhere("step " + place, NOT, x -> x.step(to));
        }
    }

    // keep: "UNKNOWN: no such k"; back: "UNKNOWN; NOT"
    private static void kept() {
        for (int k : new int[] {-1, 2, LEAST, GREATEST}) {
            midst("keep " + k, UNKNOWN, x -> x.keep(k));
            midst("back " + k, UNKNOWN, x -> x.back(k));
            nowhere("back " + k, UNKNOWN, x -> x.back(k));
        }
        midst("back 1", NOT, x -> x.back(1));
        nowhere("back 0", NOT, x -> x.back(0));
        nowhere("back 1", NOT, x -> x.back(1));
    }

    // first, most, hedged, played, count: "OUTSIDE"
    private static void whats() {
        for (int what : new int[] {-1, LEAST, GREATEST}) {
            midst("first " + what, OUTSIDE, x -> x.first(what));
            midst("most " + what, OUTSIDE, x -> x.most(what));
            midst("hedged " + what, OUTSIDE, x -> x.hedged(what));
            midst("played " + what, OUTSIDE, x -> x.played(what));
            midst("count " + what, OUTSIDE, x -> x.count(what));
        }
        midst("first 3", OUTSIDE, x -> x.first(3));
        midst("most 2", OUTSIDE, x -> x.most(2));
        midst("hedged 2", OUTSIDE, x -> x.hedged(2));
        midst("played 2", OUTSIDE, x -> x.played(2));
        midst("count 9", OUTSIDE, x -> x.count(9));
    }

    // stands, price: "UNKNOWN"; sides: "UNKNOWN; NOT: it is no BRASS one"
    private static void bandsForetold() {
        for (int band : new int[] {-1, 3, 32, LEAST, GREATEST}) {
            midst("stands " + band, UNKNOWN, x -> x.stands(band));
            midst("sides " + band, UNKNOWN, x -> x.sides(band));
            midst("price " + band, UNKNOWN, x -> x.price(band));
        }
        midst("sides 0", NOT, x -> x.sides(0));
        midst("sides 2", NOT, x -> x.sides(2));
        full("sides 3", NOT, x -> x.sides(3));
        full("stands 6", UNKNOWN, x -> x.stands(6));
        full("sides 6", UNKNOWN, x -> x.sides(6));
        full("price 6", UNKNOWN, x -> x.price(6));
    }

    // way: "UNKNOWN; NOT: she is nowhere"
    private static void ways() {
        for (int place : new int[] {-1, 4, 64, LEAST, GREATEST}) {
            midst("way " + place, UNKNOWN, x -> x.way(place));
            nowhere("way " + place, UNKNOWN, x -> x.way(place));
        }
        nowhere("way 0", NOT, x -> x.way(0));
        nowhere("way 3", NOT, x -> x.way(3));
    }

    // wind: "UNKNOWN; OUTSIDE"
    private static void winds() {
        for (int place : new int[] {-1, 4, LEAST, GREATEST}) {
            midst("wind at " + place, UNKNOWN, x -> x.wind(place, 0, 5, 0));
            midst("wind at " + place + " in hour 12", UNKNOWN, x -> x.wind(place, 12, 5, 0));
            midst("wind at " + place + " by 11", UNKNOWN, x -> x.wind(place, 0, 11, 0));
            midst("wind at " + place + " part 2", UNKNOWN, x -> x.wind(place, 0, 5, 2));
        }
        for (int bad : new int[] {-1, 12, LEAST, GREATEST}) {
            midst("wind in hour " + bad, OUTSIDE, x -> x.wind(0, bad, 5, 0));
            midst("wind by " + bad, OUTSIDE, x -> x.wind(0, 0, bad, 0));
            midst("wind part " + bad, OUTSIDE, x -> x.wind(0, 0, 5, bad));
        }
        midst("wind by 11", OUTSIDE, x -> x.wind(0, 0, 11, 0));
        midst("wind part 2", OUTSIDE, x -> x.wind(0, 0, 5, 2));
    }

    // seen: "UNKNOWN; OUTSIDE; FULL"
    private static void sightings() {
        for (int place : new int[] {-1, 4, LEAST, GREATEST}) {
            midst("seen at " + place, UNKNOWN, x -> x.seen(place, 0, 0));
            midst("seen at " + place + " in hour 12", UNKNOWN, x -> x.seen(place, 12, 0));
            midst("seen at " + place + " heard 2", UNKNOWN, x -> x.seen(place, 0, 2));
            full("seen at " + place, UNKNOWN, x -> x.seen(place, 0, 0));
            full("seen at " + place + " in hour 12", UNKNOWN, x -> x.seen(place, 12, 2));
        }
        for (int bad : new int[] {-1, 12, LEAST, GREATEST}) {
            midst("seen in hour " + bad, OUTSIDE, x -> x.seen(0, bad, 0));
            midst("seen heard " + bad, OUTSIDE, x -> x.seen(0, 0, bad));
            full("seen in hour " + bad, OUTSIDE, x -> x.seen(0, bad, 0));
            full("seen heard " + bad, OUTSIDE, x -> x.seen(0, 0, bad));
        }
        midst("seen heard 2", OUTSIDE, x -> x.seen(0, 0, 2));
        full("seen heard 2", OUTSIDE, x -> x.seen(0, 0, 2));
        full("seen", FULL, x -> x.seen(0, 0, 0));
        full("seen what was seen", FULL, x -> x.seen(0, 0, 1));
    }

    // "FORETOLD (nothing changes)", and what only asks
    private static void askedAndForetold() {
        State[] states = {FluteParkRefusals::inTheMidst, FluteParkRefusals::full, FluteParkRefusals::nowhere};
        for (State state : states) {
            changesNothing("fault", state, FlutePark::fault);
            changesNothing("margin", state, FlutePark::margin);
            for (int what = 0; what <= 8; what++) {
                int which = what;
                changesNothing("first", state, x -> x.first(which));
                changesNothing("most", state, x -> x.most(which));
                changesNothing("hedged", state, x -> x.hedged(which));
                changesNothing("played", state, x -> x.played(which));
                changesNothing("count", state, x -> x.count(which));
                changesNothing("stands", state, x -> x.stands(which));
                changesNothing("sides", state, x -> x.sides(which));
                changesNothing("price", state, x -> x.price(which));
                changesNothing("way", state, x -> x.way(which));
                changesNothing("wind", state, x -> x.wind(which % 4, which, which, 0));
                changesNothing("place", state, x -> x.place(which % 4, which / 2));
                changesNothing("band", state, x -> x.band(0, which));
                changesNothing("as", state, x -> x.as(which % 3, which % 5));
                changesNothing("sound", state, x -> x.sound(0, which % 4, which));
                changesNothing("noise", state, x -> x.noise(which % 4, which));
            }
            // What is foretold ahead of it leaves no trace in what is foretold behind it.
            changesNothing("all in a row", state, x -> x.stands(0) + x.sides(1) + x.fault() + x.hedged(1) + x.stands(1));
        }
    }

    /** No call throws, whatever is given to it, in whatever state. */
    private static void nothingThrows() {
        int[] numbers = {LEAST, LEAST + 1, -65, -64, -33, -32, -8, -5, -4, -3, -2, -1, 0, 1, 2, 3, 4, 5, 6, 7, 8, 9, 10, 11,
            12, 16, 31, 32, 35, 36, 63, 64, 200, 201, 255, 256, GREATEST - 1, GREATEST};
        State[] states = {FlutePark::new, FluteParkRefusals::inTheMidst, FluteParkRefusals::full, FluteParkRefusals::nowhere};
        for (State state : states) {
            for (int a : numbers) {
                FlutePark x = state.make();
                for (int b : numbers) {
                    twoNumbers(x, a, b);
                }
                threeNumbers(state.make(), a, numbers);
            }
        }
    }

    private static void twoNumbers(FlutePark x, int a, int b) {
        x.place(a, b);
        x.band(a, b);
        x.as(a, b);
        x.licence(a, b);
        x.noise(a, b);
        x.sound(a, b, 0);
        x.seen(a, b, 1);
        x.wind(a, b, 5, 0);
        x.write(b, a);
    }

    private static void threeNumbers(FlutePark x, int a, int[] numbers) {
        x.step(a);
        x.keep(a);
        x.back(a);
        x.first(a);
        x.most(a);
        x.stands(a);
        x.sides(a);
        x.hedged(a);
        x.price(a);
        x.way(a);
        x.played(a);
        x.count(a);
        for (int b : numbers) {
            x.sound(0, a, b);
            x.seen(0, a, b);
            x.wind(0, 0, a, b);
            x.write(Long.MIN_VALUE + b, a);
            x.fault();
            x.park();
        }
    }
}
