import java.math.BigInteger;
import java.util.ArrayList;
import java.util.HashSet;
import java.util.List;
import java.util.Random;
import java.util.Set;
import java.util.TreeSet;
import java.util.regex.Matcher;
import java.util.regex.Pattern;

/**
 * Long runs of calls, each answered by FlutePark and by a model that follows the document word by word, as slowly as
 * it likes; the seeds are fixed, so that a run that fails fails again.
 */
public final class FluteParkModel {
    private static final int RUNS = 400;
    private static final int CALLS = 512;
    private static int wrong = 0;
    private static final Set<String> KINDS_OF_ANSWERS = new TreeSet<>();

    public static void main(String[] args) {
        for (int run = 0; run < RUNS && wrong < 20; run++) {
            new Run(run).play();
        }
        for (String kind : EXPECTED_KINDS.split(" ")) {
            if (!KINDS_OF_ANSWERS.contains(kind)) {
                wrong++;
                System.out.println("no run ever met " + kind);
            }
        }
        System.out.println(wrong == 0 ? "all answers are as the model's" : wrong + " answers are not as the model's");
        if (wrong != 0) {
            System.exit(1);
        }
    }

    /** What the runs must have met to be worth something: a call's name with the kind of its answer. */
    private static final String EXPECTED_KINDS = "write:FULL write:OUTSIDE write:+ erase:0 erase:+ fault:NONE fault:0 "
            + "fault:+ park:NOT park:+ place:UNKNOWN place:OUTSIDE place:0 place:+ band:UNKNOWN band:OUTSIDE band:0 "
            + "band:+ as:UNKNOWN as:OUTSIDE as:NOT as:0 as:+ licence:UNKNOWN licence:OUTSIDE licence:0 licence:+ "
            + "sound:UNKNOWN sound:OUTSIDE sound:0 sound:+ noise:UNKNOWN noise:OUTSIDE noise:0 noise:+ step:UNKNOWN "
            + "step:NOT step:0 step:+ keep:UNKNOWN keep:0 keep:+ back:UNKNOWN back:NOT back:0 back:+ first:OUTSIDE "
            + "first:NONE first:0 first:+ most:OUTSIDE most:NONE most:0 most:+ stands:UNKNOWN stands:0 stands:+ "
            + "sides:UNKNOWN sides:NOT sides:0 sides:+ hedged:OUTSIDE hedged:NONE hedged:0 hedged:+ margin:+ "
            + "price:UNKNOWN price:0 price:+ way:UNKNOWN way:NOT way:NONE way:0 way:+ wind:UNKNOWN wind:OUTSIDE "
            + "wind:0 wind:+ seen:UNKNOWN seen:OUTSIDE seen:FULL seen:+ forget:0 forget:+ played:OUTSIDE played:NONE "
            + "played:0 played:+ count:OUTSIDE count:NONE count:0 count:+";

    private static String kindOf(long answer) {
        if (answer >= 0) {
            return answer == 0 ? "0" : "+";
        }
        String[] names = {"NONE", "UNKNOWN", "OUTSIDE", "NOT", "FULL"};
        return answer >= -5 ? names[(int) (-1 - answer)] : "?";
    }

    /** One object and its model, and the calls made on both. */
    private static final class Run {
        final int number;
        final Random random;
        final FlutePark real = new FlutePark();
        final Model model = new Model();
        int calls = 0;
        int flaws;

        Run(int number) {
            this.number = number;
            this.random = new Random(77_000L + number);
            this.flaws = number % 4 == 3 ? 3 : 12;
        }

        void check(String call, long got, long want) {
            calls++;
            KINDS_OF_ANSWERS.add(call.substring(0, call.indexOf('(')) + ":" + kindOf(want));
            if (got != want && wrong < 20) {
                wrong++;
                System.out.println("run " + number + ", call " + calls + ": " + call + " answered " + got
                        + ", due is " + want);
            }
        }

        void play() {
            while (calls < CALLS - 60 && wrong < 20) {
                if (random.nextInt(3) > 0) {
                    tell();
                }
                int many = random.nextInt(60);
                for (int i = 0; i < many && calls < CALLS - 60; i++) {
                    call(random.nextInt(30) == 0 ? random.nextInt(4) : 4 + random.nextInt(21));
                }
            }
            for (int what = 0; what < 9; what++) {
                check("count(" + what + ")", real.count(what), model.count(what));
            }
        }

        void tell() {
            // What is left of an earlier text mostly spoils the next one.
            if (model.text.length() > 0 && random.nextInt(6) > 0) {
                call(1);
            }
            String text = new Texts(random, flaws).make(model);
            for (int i = 0; i < text.length() && calls < CALLS - 60; i += 8) {
                int n = Math.min(8, text.length() - i);
                long bytes = random.nextInt(4) == 0 ? random.nextLong() : 0;
                if (n < 8) {
                    bytes = bytes << 8 * n;
                } else {
                    bytes = 0;
                }
                for (int b = 0; b < n; b++) {
                    bytes |= (long) text.charAt(i + b) << 8 * b;
                }
                write(bytes, n);
            }
            call(2);
            call(3);
        }

        void write(long bytes, int n) {
            check("write(" + bytes + ", " + n + ")", real.write(bytes, n), model.write(bytes, n));
        }

        /** Mostly a number that fits, at times one just beside, at times a wild one. */
        int some(int count) {
            switch (random.nextInt(30)) {
                case 0:
                    return -1;
                case 1:
                    return count;
                case 2:
                    return random.nextBoolean() ? Integer.MIN_VALUE : Integer.MAX_VALUE;
                case 3:
                    return random.nextInt();
                default:
                    return count <= 0 ? 0 : random.nextInt(count);
            }
        }

        int somePlace() {
            return some(model.w * model.h);
        }

        int someBand() {
            return some(model.bands.size());
        }

        int nextPlace() {
            if (model.she < 0 || random.nextInt(4) == 0) {
                return somePlace();
            }
            int[] ways = {0, 1, -1, model.w, -model.w};
            return model.she + ways[random.nextInt(5)];
        }

        void call(int which) {
            int a;
            int b;
            int c;
            int d;
            switch (which) {
                case 0:
                    a = random.nextInt(3) == 0 ? some(9) : 1 + random.nextInt(8);
                    write(random.nextLong(), a);
                    break;
                case 1:
                    check("erase()", real.erase(), model.erase());
                    break;
                case 2:
                    check("fault()", real.fault(), model.fault());
                    break;
                case 3:
                    check("park()", real.park(), model.park());
                    break;
                case 4:
                    a = somePlace();
                    b = some(4);
                    check("place(" + a + ", " + b + ")", real.place(a, b), model.place(a, b));
                    break;
                case 5:
                    a = someBand();
                    b = some(8);
                    check("band(" + a + ", " + b + ")", real.band(a, b), model.band(a, b));
                    break;
                case 6:
                    a = someBand();
                    b = some(5);
                    check("as(" + a + ", " + b + ")", real.as(a, b), model.as(a, b));
                    break;
                case 7:
                    a = someBand();
                    b = some(2);
                    check("licence(" + a + ", " + b + ")", real.licence(a, b), model.licence(a, b));
                    break;
                case 8:
                    a = someBand();
                    b = somePlace();
                    c = some(12);
                    check("sound(" + a + ", " + b + ", " + c + ")", real.sound(a, b, c), model.sound(a, b, c));
                    break;
                case 9:
                    a = somePlace();
                    b = some(12);
                    check("noise(" + a + ", " + b + ")", real.noise(a, b), model.noise(a, b));
                    break;
                case 10:
                case 11:
                    a = nextPlace();
                    check("step(" + a + ")", real.step(a), model.step(a));
                    break;
                case 12:
                    a = some(2);
                    check("keep(" + a + ")", real.keep(a), model.keep(a));
                    break;
                case 13:
                    a = some(2);
                    check("back(" + a + ")", real.back(a), model.back(a));
                    break;
                default:
                    foretell(which);
                    break;
            }
        }

        void foretell(int which) {
            int a;
            int b;
            int c;
            int d;
            switch (which) {
                case 14:
                    a = some(3);
                    check("first(" + a + ")", real.first(a), model.first(a));
                    break;
                case 15:
                    a = some(2);
                    check("most(" + a + ")", real.most(a), model.most(a));
                    break;
                case 16:
                    a = someBand();
                    check("stands(" + a + ")", real.stands(a), model.stands(a));
                    break;
                case 17:
                    a = someBand();
                    check("sides(" + a + ")", real.sides(a), model.sides(a));
                    break;
                case 18:
                    a = some(2);
                    check("hedged(" + a + ")", real.hedged(a), model.hedged(a));
                    break;
                case 19:
                    check("margin()", real.margin(), model.margin() + 1000);
                    a = someBand();
                    check("price(" + a + ")", real.price(a), model.price(a));
                    break;
                case 20:
                    a = somePlace();
                    check("way(" + a + ")", real.way(a), model.way(a));
                    break;
                case 21:
                    a = somePlace();
                    b = some(12);
                    c = some(11);
                    d = some(2);
                    check("wind(" + a + ", " + b + ", " + c + ", " + d + ")", real.wind(a, b, c, d),
                            model.wind(a, b, c, d));
                    break;
                case 22:
                    a = somePlace();
                    b = some(12);
                    c = some(2);
                    check("seen(" + a + ", " + b + ", " + c + ")", real.seen(a, b, c), model.seen(a, b, c));
                    break;
                case 23:
                    if (random.nextInt(6) == 0) {
                        check("forget()", real.forget(), model.forget());
                    }
                    a = some(2);
                    check("played(" + a + ")", real.played(a), model.played(a));
                    break;
                default:
                    a = some(9);
                    check("count(" + a + ")", real.count(a), model.count(a));
                    break;
            }
        }
    }

    /** Texts that are mostly without a fault. */
    private static final class Texts {
        final Random random;
        final int flaws;
        int w;
        int h;
        int bands;

        Texts(Random random, int flaws) {
            this.random = random;
            this.flaws = flaws;
        }

        String make(Model model) {
            w = model.w;
            h = model.h;
            bands = model.bands.size();
            StringBuilder text = new StringBuilder();
            int lines = random.nextInt(40) == 0 ? 13 : 1 + random.nextInt(12);
            for (int i = 0; i < lines && text.length() < 190; i++) {
                text.append(i > 0 ? ";" : "").append(firstOf(i));
            }
            if (random.nextInt(flaws) == 0) {
                text.setCharAt(random.nextInt(text.length()), (char) random.nextInt(256));
            }
            if (random.nextInt(flaws * 3) == 0) {
                text.setLength(random.nextInt(text.length() + 1));
            }
            return text.toString();
        }

        /** The first lines lay the park and make a walk more often than not. */
        String firstOf(int i) {
            if (i == 0 && random.nextInt(3) > 0) {
                return park();
            }
            return i == 1 && random.nextInt(2) > 0 ? walk(w * h) : line();
        }

        String walk(int places) {
            int p = random.nextInt(4) == 0 ? any(places) : random.nextInt(2);
            int q = random.nextInt(flaws * 4) == 0 ? any(places) : Math.min(places - 1, p + any(places));
            return word("walk") + number(p) + blank() + number(q);
        }

        String park() {
            w = 2 + random.nextInt(5);
            h = 2 + random.nextInt(5);
            bands = 0;
            return word("park") + number(w) + blank() + number(h);
        }

        int any(int count) {
            return count < 1 || random.nextInt(flaws * 12) == 0 ? random.nextInt(130) : random.nextInt(count);
        }

        String line() {
            int places = w * h;
            switch (random.nextInt(16)) {
                case 0:
                    return word("fall") + number(random.nextInt(4) == 0 ? any(11) : 1 + random.nextInt(4));
                case 1:
                    return word("flute") + number(any(places)) + blank() + number(20 + any(70));
                case 2:
                    return bands == 0 ? band(places) : word("worth") + number(any(bands)) + blank() + number(any(100));
                case 3:
                    return bands == 0 ? band(places) : word("side") + number(any(bands)) + blank() + number(any(4));
                case 4:
                case 5:
                    return word("hedge") + number(any(places));
                case 6:
                case 7:
                case 8:
                    return walk(places);
                case 9:
                    if (random.nextInt(5) == 0) {
                        bands = 0;
                        return word("still");
                    }
                    return band(places);
                default:
                    return bands >= 6 && random.nextInt(flaws) > 0 ? word("walk") + "0 " + (places - 1) : band(places);
            }
        }

        String band(int places) {
            String[] kinds = {"plain", "brass", "choir", "drum"};
            int a = any(12);
            int b = random.nextInt(flaws * 4) == 0 ? any(12) : a + random.nextInt(Math.max(1, 12 - a));
            bands++;
            int loud = random.nextInt(3) == 0 ? any(100) : any(45);
            return word(kinds[random.nextInt(4)]) + number(any(places)) + blank() + number(loud)
                    + blank() + number(a) + blank() + number(b);
        }

        String word(String word) {
            return (random.nextInt(12) == 0 ? " " : "") + word + (random.nextInt(4) == 0 ? "" : " ");
        }

        String blank() {
            return random.nextInt(flaws * 30) == 0 ? "" : random.nextInt(12) == 0 ? "  " : " ";
        }

        String number(int value) {
            return value < 10 && random.nextInt(8) == 0 ? "0" + value : "" + value;
        }
    }

    private static final class Band {
        String kind;
        int place;
        int loud;
        int a;
        int b;
        int worth = 1;
        int side = 0;
        boolean licence = true;

        Band same() {
            Band band = new Band();
            band.kind = kind;
            band.place = place;
            band.loud = loud;
            band.a = a;
            band.b = b;
            band.worth = worth;
            band.side = side;
            band.licence = licence;
            return band;
        }
    }

    /** What the document says, with nothing remembered that could be reckoned again. */
    private static final class Model {
        String text = "";
        int w = 4;
        int h = 4;
        int fall = 2;
        int flute = 0;
        int loud = 50;
        Set<Integer> walk = new TreeSet<>();
        Set<Integer> hedges = new TreeSet<>();
        List<Band> bands = new ArrayList<>();
        int hour = 0;
        int she = -1;
        List<int[]> seen = new ArrayList<>();
        int[][] kept = new int[2][];

        Model same() {
            Model m = new Model();
            m.text = text;
            m.w = w;
            m.h = h;
            m.fall = fall;
            m.flute = flute;
            m.loud = loud;
            m.walk.addAll(walk);
            m.hedges.addAll(hedges);
            for (Band band : bands) {
                m.bands.add(band.same());
            }
            return m;
        }

        boolean noPlace(int place) {
            return place < 0 || place >= w * h;
        }

        boolean noBand(int band) {
            return band < 0 || band >= bands.size();
        }

        boolean not(int number, int least, int greatest) {
            return number < least || number > greatest;
        }

        int write(long bytes, int n) {
            if (not(n, 1, 8)) {
                return -3;
            }
            if (text.length() + n > 200) {
                return -5;
            }
            for (int i = 0; i < n; i++) {
                text += (char) ((bytes >> 8 * i) & 255);
            }
            return text.length();
        }

        int erase() {
            int had = text.length();
            text = "";
            return had;
        }

        int fault() {
            return same().doText();
        }

        int park() {
            if (fault() != -1) {
                return -4;
            }
            doText();
            int lines = text.replaceAll("[^;]", "").length() + 1;
            text = "";
            hour = 0;
            for (Band band : bands) {
                band.licence = true;
            }
            she = walk.isEmpty() ? -1 : walk.iterator().next();
            seen.clear();
            kept = new int[2][];
            return lines;
        }

        /** Does the lines to this model, and answers the fault's place, or -1. */
        int doText() {
            Matcher m = Pattern.compile("[a-z]+|[0-9]+|[^ ]").matcher(text);
            List<String> tokens = new ArrayList<>();
            List<Integer> at = new ArrayList<>();
            while (m.find()) {
                tokens.add(m.group());
                at.add(m.start());
            }
            tokens.add("END");
            at.add(text.length());
            int i = 0;
            for (int line = 1;; line++) {
                int stop = doLine(tokens, i);
                if (stop < 0) {
                    return at.get(-1 - stop);
                }
                i = stop;
                if (tokens.get(i).equals("END")) {
                    return -1;
                }
                if (!tokens.get(i).equals(";") || line == 12) {
                    return at.get(i);
                }
                i++;
            }
        }

        /** The token behind the line that begins at token i, or -1 less the token that is the fault. */
        int doLine(List<String> t, int i) {
            String word = t.get(i);
            int places = w * h;
            int[][] bounds;
            switch (word) {
                case "park":
                    bounds = new int[][] {{2, 6}, {2, 6}};
                    break;
                case "fall":
                    bounds = new int[][] {{1, 9}};
                    break;
                case "flute":
                    bounds = new int[][] {{0, places - 1}, {0, 99}};
                    break;
                case "plain":
                case "brass":
                case "choir":
                case "drum":
                    if (bands.size() == 6) {
                        return -1 - i;
                    }
                    bounds = new int[][] {{0, places - 1}, {0, 99}, {0, 11}, {0, 11}};
                    break;
                case "worth":
                    bounds = new int[][] {{0, bands.size() - 1}, {0, 99}};
                    break;
                case "side":
                    bounds = new int[][] {{0, bands.size() - 1}, {0, 3}};
                    break;
                case "hedge":
                    bounds = new int[][] {{0, places - 1}};
                    break;
                case "walk":
                    bounds = new int[][] {{0, places - 1}, {0, places - 1}};
                    break;
                case "still":
                    bounds = new int[][] {};
                    break;
                default:
                    return -1 - i;
            }
            int[] n = new int[4];
            for (int k = 0; k < bounds.length; k++) {
                String token = t.get(i + 1 + k);
                if (!token.matches("[0-9][0-9]?")) {
                    return -1 - (i + 1 + k);
                }
                n[k] = Integer.parseInt(token);
                boolean bad = not(n[k], bounds[k][0], bounds[k][1]) || word.equals("hedge") && hedges.contains(n[k])
                        || word.equals("walk") && k == 1 && n[1] < n[0] || k == 3 && n[3] < n[2];
                if (bad) {
                    return -1 - (i + 1 + k);
                }
            }
            apply(word, n);
            return i + 1 + bounds.length;
        }

        void apply(String word, int[] n) {
            switch (word) {
                case "park":
                    w = n[0];
                    h = n[1];
                    fall = 2;
                    flute = 0;
                    loud = 50;
                    walk.clear();
                    hedges.clear();
                    bands.clear();
                    break;
                case "fall":
                    fall = n[0];
                    break;
                case "flute":
                    flute = n[0];
                    loud = n[1];
                    break;
                case "worth":
                    bands.get(n[0]).worth = n[1];
                    break;
                case "side":
                    bands.get(n[0]).side = n[1];
                    break;
                case "hedge":
                    hedges.add(n[0]);
                    break;
                case "walk":
                    for (int p = n[0]; p <= n[1]; p++) {
                        walk.add(p);
                    }
                    break;
                case "still":
                    bands.clear();
                    break;
                default:
                    Band band = new Band();
                    band.kind = word;
                    band.place = n[0];
                    band.loud = n[1];
                    band.a = n[2];
                    band.b = n[3];
                    bands.add(band);
                    break;
            }
        }

        int far(int p, int q) {
            return Math.abs(p / w - q / w) + Math.abs(p % w - q % w);
        }

        int fluteAt(int p) {
            return Math.max(0, loud - fall * far(flute, p));
        }

        int soundOf(Band band, int p, int t) {
            if (t < band.a || t > band.b || band.kind.equals("choir") && t % 2 == 1) {
                return 0;
            }
            int x = p % w - band.place % w;
            int y = p / w - band.place / w;
            if (band.kind.equals("brass")) {
                boolean[] lies = {y < 0, x > 0, y > 0, x < 0};
                if (!lies[band.side]) {
                    return 0;
                }
            }
            int sound = Math.max(0, band.loud - fall * far(band.place, p));
            return hedges.contains(band.place) && !band.kind.equals("drum") ? sound / 2 : sound;
        }

        int noiseAt(int p, int t) {
            int sum = 0;
            for (Band band : bands) {
                sum += band.licence ? soundOf(band, p, t) : 0;
            }
            return sum;
        }

        boolean heard(int p, int t) {
            return fluteAt(p) > noiseAt(p, t);
        }

        boolean holds() {
            for (int p : walk) {
                for (int t = 0; t < 12; t++) {
                    if (!heard(p, t)) {
                        return false;
                    }
                }
            }
            return true;
        }

        int licences() {
            int set = 0;
            for (int i = 0; i < bands.size(); i++) {
                set += bands.get(i).licence ? 1 << i : 0;
            }
            return set;
        }

        Model with(int set) {
            Model m = same();
            for (int i = 0; i < bands.size(); i++) {
                m.bands.get(i).licence = (set & 1 << i) != 0;
            }
            return m;
        }

        int place(int p, int what) {
            if (noPlace(p)) {
                return -2;
            }
            if (not(what, 0, 3)) {
                return -3;
            }
            int there = 0;
            for (int i = 0; i < bands.size(); i++) {
                there += bands.get(i).place == p ? 1 << i : 0;
            }
            return new int[] {walk.contains(p) ? 1 : 0, hedges.contains(p) ? 1 : 0, there, fluteAt(p)}[what];
        }

        int band(int i, int what) {
            if (noBand(i)) {
                return -2;
            }
            if (not(what, 0, 7)) {
                return -3;
            }
            Band x = bands.get(i);
            int kind = List.of("plain", "brass", "choir", "drum").indexOf(x.kind);
            return new int[] {kind, x.place, x.loud, x.a, x.b, x.worth, x.side, x.licence ? 1 : 0}[what];
        }

        int as(int i, int kind) {
            if (noBand(i)) {
                return -2;
            }
            if (not(kind, 0, 4)) {
                return -3;
            }
            String[] such = {"plain brass choir drum", "plain brass choir", "brass", "choir", "drum"};
            Band x = bands.get(i);
            return such[kind].contains(x.kind) ? soundOf(x, x.place, hour) : -4;
        }

        int licence(int i, int is) {
            if (noBand(i)) {
                return -2;
            }
            if (not(is, 0, 1)) {
                return -3;
            }
            int had = bands.get(i).licence ? 1 : 0;
            bands.get(i).licence = is == 1;
            return had;
        }

        int sound(int i, int p, int t) {
            if (noBand(i) || noPlace(p)) {
                return -2;
            }
            return not(t, 0, 11) ? -3 : soundOf(bands.get(i), p, t);
        }

        int noise(int p, int t) {
            if (noPlace(p)) {
                return -2;
            }
            return not(t, 0, 11) ? -3 : noiseAt(p, t);
        }

        int step(int p) {
            if (noPlace(p)) {
                return -2;
            }
            if (she == -1 || far(she, p) > 1 || !walk.contains(p)) {
                return -4;
            }
            she = p;
            hour = (hour + 1) % 12;
            return heard(p, hour) ? 1 : 0;
        }

        int keep(int k) {
            if (not(k, 0, 1)) {
                return -2;
            }
            kept[k] = new int[] {licences(), she, hour};
            return hour;
        }

        int back(int k) {
            if (not(k, 0, 1)) {
                return -2;
            }
            if (kept[k] == null) {
                return -4;
            }
            for (int i = 0; i < bands.size(); i++) {
                bands.get(i).licence = (kept[k][0] & 1 << i) != 0;
            }
            she = kept[k][1];
            hour = kept[k][2];
            return hour;
        }

        int first(int what) {
            if (not(what, 0, 2)) {
                return -3;
            }
            for (int t = 0; t < 12; t++) {
                for (int p : walk) {
                    if (!heard(p, t)) {
                        int who = -1;
                        for (int i = bands.size() - 1; i >= 0; i--) {
                            int s = bands.get(i).licence ? soundOf(bands.get(i), p, t) : 0;
                            if (s > 0 && (who == -1 || s >= soundOf(bands.get(who), p, t))) {
                                who = i;
                            }
                        }
                        return new int[] {t, p, who}[what];
                    }
                }
            }
            return -1;
        }

        int most(int what) {
            if (not(what, 0, 1)) {
                return -3;
            }
            int bestSet = -1;
            int best = -1;
            for (int set = (1 << bands.size()) - 1; set >= 0; set--) {
                int worth = 0;
                for (int i = 0; i < bands.size(); i++) {
                    worth += (set & 1 << i) != 0 ? bands.get(i).worth : 0;
                }
                if (worth >= best && with(set).holds()) {
                    best = worth;
                    bestSet = set;
                }
            }
            return what == 0 ? best : bestSet;
        }

        long stands(int i) {
            if (noBand(i)) {
                return -2;
            }
            long places = 0;
            for (int p = 0; p < w * h; p++) {
                Model m = with(licences() | 1 << i);
                m.bands.get(i).place = p;
                places += m.holds() ? 1L << p : 0;
            }
            return places;
        }

        int sides(int i) {
            if (noBand(i)) {
                return -2;
            }
            if (!bands.get(i).kind.equals("brass")) {
                return -4;
            }
            int sides = 0;
            for (int s = 0; s < 4; s++) {
                Model m = with(licences() | 1 << i);
                m.bands.get(i).side = s;
                sides += m.holds() ? 1 << s : 0;
            }
            return sides;
        }

        long hedged(int what) {
            if (not(what, 0, 1)) {
                return -3;
            }
            TreeSet<Integer> free = new TreeSet<>();
            for (Band band : bands) {
                free.add(band.place);
            }
            free.removeAll(hedges);
            List<Integer> where = new ArrayList<>(free);
            long best = -1;
            for (int set = 0; set < 1 << where.size(); set++) {
                Model m = same();
                long bits = 0;
                for (int i = 0; i < where.size(); i++) {
                    if ((set & 1 << i) != 0) {
                        m.hedges.add(where.get(i));
                        bits += 1L << where.get(i);
                    }
                }
                if (m.holds() && (best == -1 || Long.bitCount(bits) < Long.bitCount(best)
                        || Long.bitCount(bits) == Long.bitCount(best) && bits < best)) {
                    best = bits;
                }
            }
            return best == -1 || what == 1 ? best : Long.bitCount(best);
        }

        int margin() {
            int least = 999;
            for (int p : walk) {
                for (int t = 0; t < 12; t++) {
                    least = Math.min(least, fluteAt(p) - noiseAt(p, t));
                }
            }
            return least;
        }

        int price(int i) {
            return noBand(i) ? -2 : with(licences() & ~(1 << i)).margin() - with(licences() | 1 << i).margin();
        }

        int way(int to) {
            if (noPlace(to)) {
                return -2;
            }
            if (she == -1) {
                return -4;
            }
            Set<Integer> at = new HashSet<>();
            if (heard(she, hour)) {
                at.add(she);
            }
            for (int t = 0; t <= 99; t++) {
                if (at.contains(to)) {
                    return t;
                }
                Set<Integer> then = new HashSet<>();
                for (int p : walk) {
                    for (int q : at) {
                        if (far(p, q) <= 1 && heard(p, (hour + t + 1) % 12)) {
                            then.add(p);
                        }
                    }
                }
                at = then;
            }
            return -1;
        }

        int wind(int p, int t, int tenths, int part) {
            if (noPlace(p)) {
                return -2;
            }
            if (not(t, 0, 11) || not(tenths, 0, 10) || not(part, 0, 1)) {
                return -3;
            }
            List<Integer> sounds = new ArrayList<>();
            for (Band band : bands) {
                if (band.licence) {
                    sounds.add(soundOf(band, p, t));
                }
            }
            BigInteger above = BigInteger.valueOf(odds(sounds, 0, fluteAt(p), tenths));
            BigInteger below = BigInteger.TEN.pow(sounds.size());
            return (part == 0 ? above : below).divide(above.gcd(below)).intValueExact();
        }

        /** In how many of the ways of the wind for the bands from i on they stay below what is left of the flute. */
        long odds(List<Integer> sounds, int i, int left, int tenths) {
            if (i == sounds.size()) {
                return left > 0 ? 1 : 0;
            }
            return tenths * odds(sounds, i + 1, left - 2 * sounds.get(i), tenths)
                    + (10 - tenths) * odds(sounds, i + 1, left - sounds.get(i), tenths);
        }

        int seen(int p, int t, int heard) {
            if (noPlace(p)) {
                return -2;
            }
            if (not(t, 0, 11) || not(heard, 0, 1)) {
                return -3;
            }
            if (seen.size() == 8) {
                return -5;
            }
            seen.add(new int[] {p, t, heard});
            return seen.size();
        }

        int forget() {
            int had = seen.size();
            seen.clear();
            return had;
        }

        int played(int what) {
            if (not(what, 0, 1)) {
                return -3;
            }
            List<Integer> sets = new ArrayList<>();
            for (int set = 0; set < 1 << bands.size(); set++) {
                Model m = with(set);
                boolean so = true;
                for (int[] one : seen) {
                    so &= m.heard(one[0], one[1]) == (one[2] == 1);
                }
                if (so) {
                    sets.add(set);
                }
            }
            if (what == 0) {
                return sets.size();
            }
            int all = sets.isEmpty() ? -1 : 63;
            for (int set : sets) {
                all &= set;
            }
            return all;
        }

        int count(int what) {
            if (not(what, 0, 8)) {
                return -3;
            }
            return new int[] {w, h, fall, bands.size(), licences(), hour, she, seen.size(), text.length()}[what];
        }
    }
}
