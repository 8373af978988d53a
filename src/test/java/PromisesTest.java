import java.nio.charset.StandardCharsets;
import java.util.Arrays;

/** For each promise of the document: ordinary calls, its edges, and wrong inputs, with answers worked out by hand. */
public final class PromisesTest {
    private static final int MAX = Integer.MAX_VALUE, MIN = Integer.MIN_VALUE;
    private static final int ALL_HOURS = (1 << 24) - 1;
    private static int wrong = 0, seen = 0;

    private static void due(int promise, String what, int got, int want) {
        seen++;
        if (got != want) {
            wrong++;
            System.out.println("promise " + promise + ": " + what + " answered " + got + ", due is " + want);
        }
    }

    /** Each of the answers of one call with wrong inputs is -2. */
    private static void noSuch(int promise, String what, int... got) {
        for (int i = 0; i < got.length; i++) due(promise, what + ", wrong input " + i, got[i], -2);
    }

    private static SlotSeries tape(SlotSeries x, String s) {
        byte[] b = s.getBytes(StandardCharsets.ISO_8859_1);
        byte[] t = Arrays.copyOf(b, (b.length + 19) / 20 * 20);
        int had = x.count(7);
        for (int i = 0; i < t.length; i += 20) {
            int[] v = new int[5];
            for (int k = 0; k < 20; k++) v[k / 4] = v[k / 4] << 8 | t[i + k] & 255;
            x.feed(v[0], v[1], v[2], v[3], v[4]);
        }
        x.end(had + b.length);
        return x;
    }

    private static int text(SlotSeries x, String s) { return tape(x, s).text(); }

    private static SlotSeries with(String s) {
        SlotSeries x = new SlotSeries();
        if (text(x, s) < 0) {
            wrong++;
            System.out.println("a text of the tests is refused: " + s + " (" + x.fault(0) + " at " + x.fault(1) + ")");
        }
        return x;
    }

    private static String out(SlotSeries x) {
        StringBuilder b = new StringBuilder();
        for (int i = 0, octet = x.octet(0); octet >= 0; octet = x.octet(++i)) b.append((char) octet);
        return b.toString();
    }

    private static void told(int promise, SlotSeries x, String want) {
        due(promise, "tell()", x.tell(), want.length());
        String got = out(x);
        seen++;
        if (!got.equals(want)) {
            wrong++;
            System.out.println("promise " + promise + ": told is " + got + ", due is " + want);
        }
    }

    private static void faulty(String s, int fault, int place) {
        SlotSeries x = new SlotSeries();
        due(4, "text() of " + s, text(x, s), -4);
        due(5, "fault(0) of " + s, x.fault(0), fault);
        due(5, "fault(1) of " + s, x.fault(1), place);
        due(4, "count(0) behind " + s, x.count(0), 0);
        due(4, "count(7) behind " + s, x.count(7), 0);
    }

    private static void ticks(SlotSeries x, int n) { for (int i = 0; i < n; i++) x.tick(); }

    private static final String TWO = "weeks 10;carrier aa;carrier b;series aa mon 8 in 0-9;series b mon 8 out 2-6;";

    public static void main(String[] args) {
        newObject();
        tapeAndEnd();
        texts();
        faults();
        counts();
        lettersAndFind();
        seriesAndWeeks();
        asksAndLimits();
        loads();
        useStandsSpare();
        carriers();
        bestAndMost();
        peaks();
        fittingAndAsks();
        blockedAsks();
        poolOrder();
        poolGrants();
        helping();
        keptCommonIdle();
        missExcuseFly();
        givingBack();
        ticking();
        retiming();
        swapping();
        handing();
        limiting();
        asking();
        dropping();
        ending();
        undoing();
        ratesAndRuns();
        pairing();
        telling();
        manyCalls();
        System.out.println(seen + " answers looked at, " + wrong + " wrong");
        if (wrong > 0) System.exit(1);
    }

    private static void newObject() {
        SlotSeries x = new SlotSeries();
        due(1, "NONE", SlotSeries.NONE, -1);
        for (int k = 0; k < 8; k++) due(1, "count(" + k + ")", x.count(k), 0);
        noSuch(1, "no TEXT", x.letter(0, 0), x.find(), x.series(0, 0), x.weeks(0, 0), x.week(0, 0), x.asked(0, 0),
                x.limitOf(0, 0), x.load(0, 0, 0, 0), x.at(0, 0, 0, 0), x.room(0, 0, 0, 0), x.use(0, 0), x.stands(0),
                x.spare(0), x.of(0, 0), x.of(0, -1), x.entrant(0, 0), x.sum(0, 0), x.best(0), x.peak(0), x.full(0),
                x.fitting(0, 0, 0, 0), x.fits(0), x.where(0), x.blocked(0), x.first(), x.would(), x.helps(0), x.kept(0),
                x.common(0, 0), x.idle(0), x.miss(0, 0), x.excuse(0, 0), x.fly(0, 0), x.back(0, 0), x.gives(0, 0),
                x.tick(), x.pool(), x.retime(0, 0), x.swap(0, 0), x.hand(0, 0), x.limit(0, 4, 4), x.ask(0, 0, 0, 4, 0),
                x.drop(0), x.ends(), x.turn(0), x.granted(0), x.clash(0, 0), x.rate(0), x.longest(0), x.movable(0),
                x.partners(0), x.pairs(0, 0, 0), x.most(0, 0), x.tell());
        due(1, "undo()", x.undo(), -1);
        due(1, "octet(0)", x.octet(0), -1);
    }

    private static void tapeAndEnd() {
        SlotSeries x = new SlotSeries();
        due(2, "feed", x.feed(0x7765656b, 0x7320353b, 0x20202020, 0x20202020, 0x20202020), 20);
        due(2, "the bytes' order", x.text(), 1);
        for (int i = 1; i <= 60; i++) due(2, "feed " + i, x.feed(MAX, MIN, -1, 0, 1), 20 * i);
        due(2, "feed above 1200", x.feed(0, 0, 0, 0, 0), -1);
        due(2, "count(7) then", x.count(7), 1200);
        due(3, "end(1200)", x.end(1200), 1200);
        due(3, "end(1201)", x.end(1201), -1);
        due(3, "end(-1)", x.end(-1), -1);
        due(3, "end(far)", x.end(MIN), -1);
        due(3, "end(far)", x.end(MAX), -1);
        due(3, "count(7) then", x.count(7), 1200);
        due(3, "end(1181)", x.end(1181), 1181);
        due(2, "feed above 1200", x.feed(0, 0, 0, 0, 0), -1);
        due(3, "end(1180)", x.end(1180), 1180);
        due(2, "feed to 1200", x.feed(0, 0, 0, 0, 0), 1200);
        due(3, "end(0)", x.end(0), 0);
        due(3, "end(1)", x.end(1), -1);
        tape(x, "weeks 5;carrier abc");
        due(3, "end(13)", x.end(13), 13);
        due(3, "what end() left", text(x, "er a;"), 2);
        tape(x, "weeks 12;").end(7);
        due(3, "no digit behind the end", x.text(), -4);
        due(3, "no digit behind the end", x.fault(0) * 10 + x.fault(1), 26);
        tape(x, "weeks 55;").end(7);
        due(3, "no digit behind the end", x.text() * 100 + x.fault(0) * 10 + x.fault(1), -400 + 17);
        tape(x, "weeks 5;carrier ab;").end(17);
        due(3, "no letter behind the end", x.text() * 100 + x.fault(0) * 10 + x.fault(1), -400 + 27);
        tape(x, "weeks 5  ").end(8);
        due(3, "no blank behind the end", x.text() * 100 + x.fault(0) * 10 + x.fault(1), -400 + 18);
        // A TAPE that is full to its last byte.
        due(4, "a full TAPE of blanks", text(x, "weeks 5;" + " ".repeat(1192)), 1);
        due(4, "a full TAPE of one number", text(x, "weeks " + "0".repeat(1194)), -4);
        due(5, "its fault", x.fault(0) * 10000 + x.fault(1), 20006);
        due(4, "a full TAPE of one word", text(x, "w".repeat(1200)), -4);
        due(5, "its fault", x.fault(0) * 10000 + x.fault(1), 10000);
        due(4, "a full TAPE that lacks its end", text(x, "weeks " + "0".repeat(1193) + "5"), -4);
        due(5, "its fault", x.fault(0) * 10000 + x.fault(1), 11200);
        due(4, "a full TAPE that stands", text(x, "weeks " + "0".repeat(1192) + "5;"), 1);
    }

    private static void texts() {
        SlotSeries x = new SlotSeries();
        due(4, "the least text", text(x, "weeks 5;"), 1);
        due(4, "blanks", text(x, "\n weeks\n 30 ;carrier a ;\nseries a sun 23 out 25 - 29 new;  "), 3);
        due(4, "a series at the edges", x.series(0, 5), 31 << 25);
        due(4, "no blanks", text(x, "weeks10;limit8 2in1;carrier aa;ask aa mon8in0-9by9;"), 4);
        due(4, "limit told without blanks", x.limitOf(8, 1), 1);
        due(4, "by told without blanks", x.asked(0, 6), 9);
        due(4, "noughts ahead", text(x, "weeks 00000000000000000012;limit 007 09 in 009;"), 2);
        due(4, "noughts ahead", x.count(0), 12);
        due(4, "noughts ahead", x.limitOf(7, 0), 9);
        due(4, "names near the words", text(x, "weeks 5;carrier newt;carrier i;carrier inn;carrier mo;carrier asks;carrier week;carrier bye;carrier abcdef;"), 9);
        due(4, "a limit behind carrier and ask", text(x, "weeks 5;carrier a;ask a mon 8 in 0-4;limit 8 0 in 0;"), 4);
        // A text that is refused leaves all else as it was, what can be undone too.
        x = with(TWO);
        x.tick();
        x.tell();
        due(4, "a faulty text", text(x, "weeks 4;"), -4);
        due(4, "SERIES stay", x.count(2), 2);
        due(4, "NOW stays", x.count(4), 1);
        due(4, "acts stay", x.count(6), 1);
        due(4, "OUT stays", x.octet(0), 'w');
        due(4, "the tape goes", x.count(7), 0);
        ticks(x, 9);
        x.ends();
        due(4, "another text", text(x, "weeks 6;carrier z;"), 2);
        due(4, "SERIES anew", x.count(2), 0);
        due(4, "NOW anew", x.count(4), 0);
        due(4, "seasons anew", x.count(5), 0);
        due(4, "acts anew", x.count(6), 0);
        due(4, "limits anew", x.limitOf(8, 0), 4);
        due(4, "letters anew", x.letter(0, 1), 0);
        StringBuilder b = new StringBuilder("weeks 5;carrier a;");
        for (int i = 0; i < 24; i++) b.append("series a mon " + i + " in 0-4;");
        due(4, "24 series", text(x, b.toString()), 26);
        int place = b.length();
        due(4, "a 25th", text(x, b + "series a"), -4);
        due(4, "its fault", x.fault(0), 5);
        due(4, "its place", x.fault(1), place);
        b = new StringBuilder("weeks 5;carrier a;");
        for (int i = 0; i < 24; i++) b.append("ask a mon 1 in 0-4;");
        due(4, "24 asks", text(x, b.toString()), 26);
        place = b.length();
        due(4, "a 25th", text(x, b + "ask a mon"), -4);
        due(4, "its fault", x.fault(0), 5);
        due(4, "its place", x.fault(1), place);
    }

    private static void faults() {
        SlotSeries x = new SlotSeries();
        due(5, "fault(0) ahead of any", x.fault(0), 0);
        due(5, "fault(1) ahead of any", x.fault(1), -1);
        due(5, "fault(2)", x.fault(2), -1);
        due(5, "fault(-1)", x.fault(-1), -1);
        due(5, "fault(far)", x.fault(MAX), -1);
        faulty("", 1, 0);
        faulty("   ", 1, 3);
        faulty("week 5;", 1, 0);
        faulty("Weeks 5;", 1, 0);
        faulty("weeks", 1, 5);
        faulty("weeks  ", 1, 7);
        faulty("weeks x;", 1, 6);
        faulty("weeks 4;", 2, 6);
        faulty("weeks 31;", 2, 6);
        faulty("weeks 99999999999999999999;", 2, 6);
        faulty("weeks 4294967301;", 2, 6);
        faulty("weeks 5", 1, 7);
        faulty("weeks 5 ", 1, 8);
        faulty("weeks 5,", 1, 7);
        faulty("weeks 5;;", 1, 8);
        faulty("weeks 5;?", 1, 8);
        faulty("weeks 5;\t", 1, 8);
        faulty("weeks 5;\u00e9", 1, 8);
        faulty("weeks 5;weeks 5;", 1, 8);
        faulty("weeks 5;mon", 1, 8);
        faulty("weeks 5;limits", 1, 8);
        // limit
        faulty("weeks 5;limit 24 4 in 4;", 2, 14);
        faulty("weeks 5;limit x 4 in 4;", 1, 14);
        faulty("weeks 5;limit 2 10 in 4;", 2, 16);
        faulty("weeks 5;limit 2 3 out 3;", 1, 18);
        faulty("weeks 5;limit 2 3 in 4;", 2, 21);
        faulty("weeks 5;limit 2 3 in 3 3", 1, 23);
        faulty("weeks 5;limit 2 3 in 3;limit 2 10", 3, 29);
        faulty("weeks 5;limit 2 3 in 3;limit 002", 3, 29);
        // carrier
        faulty("weeks 5;carrier ;", 1, 16);
        faulty("weeks 5;carrier abcdefg;", 1, 16);
        for (String w : Model.WORDS) faulty("weeks 5;carrier " + w + ";", 1, 16);
        faulty("weeks 5;carrier a1;", 1, 17);
        faulty("weeks 5;carrier aB;", 1, 17);
        faulty("weeks 5;carrier 1;", 1, 16);
        faulty("weeks 5;carrier a;carrier b;carrier a", 3, 36);
        faulty("weeks 5;carrier a;carrier b;carrier c;carrier d;carrier e;carrier f;carrier g;carrier h;carrier a;", 5, 88);
        // series
        String c = "weeks 9;carrier a;";
        faulty(c + "series b mon", 4, 25);
        faulty(c + "series abcdefg mon", 1, 25);
        faulty(c + "series mon mon", 1, 25);
        faulty(c + "series a a", 1, 27);
        faulty(c + "series a mo 3", 1, 27);
        faulty(c + "series a monday 3", 1, 27);
        faulty(c + "series a weeks 3", 1, 27);
        faulty(c + "series a mon in", 1, 31);
        faulty(c + "series a mon 24", 2, 31);
        faulty(c + "series a mon 2 new", 1, 33);
        faulty(c + "series a mon 2 in in", 1, 36);
        faulty(c + "series a mon 2 in 0,4", 1, 37);
        faulty(c + "series a mon 2 in 0-x", 1, 38);
        faulty(c + "series a mon 2 in 0-9;", 2, 38);
        faulty(c + "series a mon 2 in 0-3;", 2, 38);
        faulty(c + "series a mon 2 in 5-8;", 2, 38);
        faulty(c + "series a mon 2 in 8-4;", 2, 38);
        faulty(c + "series a mon 2 in 9-13;", 2, 38);
        faulty(c + "series a mon 2 in 99;", 1, 38);
        faulty(c + "series a mon 2 in 99999999999-99999999999;", 2, 48);
        faulty(c + "series a mon 2 in 4294967296-4;", 2, 47);
        faulty(c + "series a mon 2 in 0-4 by 1;", 1, 40);
        faulty(c + "series a mon 2 in 0-4 new new;", 1, 44);
        faulty(c + "series a mon 2 in 0-4 new", 1, 43);
        faulty(c + "series a mon 2 in 0-4;limit", 5, 40);
        // ask
        faulty(c + "ask a mon 2 in 0-4 new;", 1, 37);
        faulty(c + "ask a mon 2 in 0-4 by 10;", 2, 40);
        faulty(c + "ask a mon 2 in 0-4 by;", 1, 39);
        faulty(c + "ask a mon 2 in 0-4 by 1 by 1;", 1, 42);
        faulty(c + "ask a mon 2 in 0-9;", 2, 35);
        faulty(c + "ask c mon 2 in 0-9;", 4, 22);
        // what does not fit
        String l = "weeks 9;limit 2 2 in 1;carrier a;";
        faulty(l + "series a mon 2 in 0-4;series a mon 2 in 4-8;", 6, 76);
        faulty(l + "series a mon 2 in 0-4;series a mon 2 in 4-8", 1, 76);
        faulty(l + "series a mon 2 in 0-4;series a mon 2 in 4-8 new  ;", 6, 82);
        faulty(l + "series a mon 2 in 0-4;series a mon 2 out 0-4;series a mon 2 out 4-8;", 6, 100);
        due(4, "those that fit", text(x, l + "series a mon 2 in 0-4;series a mon 2 out 0-4;series a tue 2 in 0-4;series a mon 3 in 0-4;"), 7);
        due(4, "limits that are 0", text(x, "weeks 9;limit 2 0 in 0;carrier a;series a mon 2 out 0-4;"), -4);
        due(5, "fault(0)", x.fault(0), 6);
        due(4, "a sound one behind it", text(x, "weeks 9;"), 1);
        due(5, "fault(0) then", x.fault(0), 0);
        due(5, "fault(1) then", x.fault(1), -1);
    }

    private static void counts() {
        SlotSeries x = with("weeks 7;carrier a;carrier b;series a mon 1 in 0-4;ask a mon 1 in 0-4;ask b mon 1 in 0-4;ask b mon 1 in 0-4;");
        tape(x, "abc");
        x.tick();
        x.tick();
        int[] want = {7, 2, 1, 3, 2, 0, 2, 3};
        for (int k = 0; k < 8; k++) due(6, "count(" + k + ")", x.count(k), want[k]);
        ticks(x, 5);
        x.ends();
        due(6, "count(5)", x.count(5), 1);
        due(6, "count(4)", x.count(4), 0);
        due(6, "count(-1)", x.count(-1), -1);
        due(6, "count(8)", x.count(8), -1);
        due(6, "count(far)", x.count(MIN), -1);
    }

    private static void lettersAndFind() {
        SlotSeries x = with("weeks 7;carrier az;carrier bcdefg;");
        int[] want = {1, 26, 0, 0, 0, 0, 2, 3, 4, 5, 6, 7};
        for (int i = 0; i < 12; i++) due(7, "letter", x.letter(i / 6, i % 6), want[i]);
        noSuch(7, "letter", x.letter(2, 0), x.letter(-1, 0), x.letter(0, 6), x.letter(0, -1), x.letter(MAX, MAX), x.letter(MIN, 0));
        due(8, "find az", tape(x, "az").find(), 0);
        due(8, "the tape then", x.count(7), 0);
        due(8, "find bcdefg", tape(x, "bcdefg").find(), 1);
        due(8, "find a", tape(x, "a").find(), -1);
        due(8, "find azz", tape(x, "azz").find(), -1);
        due(8, "find bcdef", tape(x, "bcdef").find(), -1);
        due(8, "find a word of a TEXT", tape(x, "weeks").find(), -1);
        noSuch(8, "find", x.find(), tape(x, "abcdefg").find(), tape(x, "Az").find(), tape(x, "az ").find(), tape(x, "a1").find(), tape(x, "a{").find(), tape(x, "`").find(), tape(x, "\u00e1").find());
        due(8, "the tape behind -2", tape(x, "A").find() + x.count(7), -2);
        x = new SlotSeries();
        due(8, "find without a TEXT", tape(x, "az").find(), -2);
        due(8, "the tape then", x.count(7), 0);
    }

    private static void seriesAndWeeks() {
        SlotSeries x = with(TWO + "series b sun 23 out 5-9 new;");
        int[] want = {0, 0, 8, 0, 0, 1023, 1, 0, 8, 1, 0, 124, 1, 6, 23, 1, 1, 992};
        for (int i = 0; i < 18; i++) due(9, "series(" + i / 6 + ", " + i % 6 + ")", x.series(i / 6, i % 6), want[i]);
        noSuch(9, "series", x.series(3, 0), x.series(-1, 0), x.series(0, 6), x.series(0, -1), x.series(MAX, 0), x.series(0, MIN));
        x.miss(0, 1);
        x.excuse(0, 2);
        x.back(0, 8);
        x.tick();
        int[] masks = {1023 - 1 - 2 - 4 - 768, 1, 2, 4, 768};
        for (int k = 0; k < 5; k++) due(10, "weeks(0, " + k + ")", x.weeks(0, k), masks[k]);
        due(9, "GIVEN ones, too", x.series(0, 5), 1023);
        noSuch(10, "weeks", x.weeks(3, 0), x.weeks(-1, 0), x.weeks(0, 5), x.weeks(0, -1), x.weeks(MIN, MAX));
        int[] states = {1, 2, 3, 0, 0, 0, 0, 0, 4, 4};
        for (int w = 0; w < 10; w++) due(11, "week(0, " + w + ")", x.week(0, w), states[w]);
        due(11, "week(1, 0)", x.week(1, 0), -1);
        due(11, "week(1, 9)", x.week(1, 9), -1);
        noSuch(11, "week", x.week(0, 10), x.week(0, -1), x.week(3, 0), x.week(-1, 0), x.week(0, 32), x.week(MAX, MIN));
    }

    private static void asksAndLimits() {
        SlotSeries x = with("weeks 30;limit 0 0 in 0;limit 23 9 in 8;carrier a;carrier b;ask b sun 23 out 3-29 by 9;ask a mon 0 in 0-4;");
        int[] want = {1, 6, 23, 1, 3, 29, 9, 0, 0, 0, 0, 0, 4, 0};
        for (int i = 0; i < 14; i++) due(12, "asked(" + i / 7 + ", " + i % 7 + ")", x.asked(i / 7, i % 7), want[i]);
        noSuch(12, "asked", x.asked(2, 0), x.asked(-1, 0), x.asked(0, 7), x.asked(0, -1), x.asked(MAX, MIN));
        due(13, "limitOf(0, 0)", x.limitOf(0, 0), 0);
        due(13, "limitOf(23, 0)", x.limitOf(23, 0), 9);
        due(13, "limitOf(23, 1)", x.limitOf(23, 1), 8);
        due(13, "limitOf(12, 1)", x.limitOf(12, 1), 4);
        noSuch(13, "limitOf", x.limitOf(24, 0), x.limitOf(-1, 0), x.limitOf(0, 2), x.limitOf(0, -1), x.limitOf(MIN, MAX));
    }

    private static void loads() {
        SlotSeries x = with("weeks 10;limit 8 5 in 2;carrier a;series a tue 8 out 0-9;series a mon 8 in 0-9;series a mon 8 out 2-6;series a mon 8 out 3-9;");
        due(14, "load(0, 0, 8, 0)", x.load(0, 0, 8, 0), 1);
        due(14, "load(2, 0, 8, 0)", x.load(2, 0, 8, 0), 2);
        due(14, "load(3, 0, 8, 0)", x.load(3, 0, 8, 0), 3);
        due(14, "load(3, 0, 8, 1)", x.load(3, 0, 8, 1), 1);
        due(14, "load(3, 0, 8, 2)", x.load(3, 0, 8, 2), 2);
        due(14, "load(3, 1, 8, 0)", x.load(3, 1, 8, 0), 1);
        due(14, "load(3, 0, 9, 0)", x.load(3, 0, 9, 0), 0);
        due(15, "at(3, 0, 8, 0)", x.at(3, 0, 8, 0), 1);
        due(15, "at(3, 0, 8, 2)", x.at(3, 0, 8, 2), 3);
        due(15, "at(3, 0, 8, 3)", x.at(3, 0, 8, 3), -1);
        due(15, "at(9, 0, 8, 1)", x.at(9, 0, 8, 1), 3);
        due(15, "at(3, 1, 8, 0)", x.at(3, 1, 8, 0), 0);
        due(15, "at(3, 1, 8, 1)", x.at(3, 1, 8, 1), -1);
        due(15, "at(3, 6, 0, 0)", x.at(3, 6, 0, 0), -1);
        due(15, "at(9, 0, 8, far)", x.at(9, 0, 8, MAX), -1);
        due(16, "room(3, 0, 8, 0)", x.room(3, 0, 8, 0), 1);
        due(16, "room(3, 0, 8, 1)", x.room(3, 0, 8, 1), 2);
        due(16, "room(0, 0, 8, 0)", x.room(0, 0, 8, 0), 1);
        due(16, "room(0, 0, 8, 1)", x.room(0, 0, 8, 1), 4);
        due(16, "room(0, 0, 7, 0)", x.room(0, 0, 7, 0), 4);
        noSuch(14, "load", x.load(10, 0, 8, 0), x.load(-1, 0, 8, 0), x.load(0, 7, 8, 0), x.load(0, -1, 8, 0), x.load(0, 0, 24, 0), x.load(0, 0, -1, 0), x.load(0, 0, 8, 3), x.load(0, 0, 8, -1), x.load(MAX, MIN, MAX, MIN));
        noSuch(15, "at", x.at(10, 0, 8, 0), x.at(-1, 0, 8, 0), x.at(0, 7, 8, 0), x.at(0, -1, 8, 0), x.at(0, 0, 24, 0), x.at(0, 0, -1, 0), x.at(0, 0, 8, -1), x.at(0, 0, 8, MIN));
        noSuch(16, "room", x.room(10, 0, 8, 0), x.room(-1, 0, 8, 0), x.room(0, 7, 8, 0), x.room(0, -1, 8, 0), x.room(0, 0, 24, 0), x.room(0, 0, -1, 0), x.room(0, 0, 8, 2), x.room(0, 0, 8, -1));
        x.back(1, 4);
        due(14, "load without a GIVEN one", x.load(4, 0, 8, 0), 2);
        due(14, "load in without a GIVEN one", x.load(4, 0, 8, 1), 0);
        due(15, "at without a GIVEN one", x.at(4, 0, 8, 0), 2);
        due(16, "room with a GIVEN one", x.room(4, 0, 8, 0), 2);
        // Nor do objects that were used ahead of it show: a series that was undone.
        x = with("weeks 5;carrier a;ask a mon 0 in 0-4;");
        x.pool();
        x.undo();
        due(14, "load without series", x.load(0, 0, 0, 0) + x.load(0, 0, 0, 1), 0);
        due(15, "at without series", x.at(0, 0, 0, 0), -1);
        due(22, "sum without series", x.sum(0, 0), 0);
        due(21, "entrant without series", x.entrant(0, 0), 1);
        // What is retimed brings its past weeks along.
        x = with("weeks 10;limit 8 1 in 1;carrier a;series a mon 8 in 0-9;series a mon 9 in 0-4;");
        ticks(x, 5);
        due(43, "retime with weeks gone by alone", x.retime(1, 8), 9);
        due(14, "load above the limit", x.load(0, 0, 8, 0), 2);
        due(16, "room then", x.room(0, 0, 8, 1), 0);
        due(16, "room in then", x.room(0, 0, 8, 0), 0);
    }

    private static void useStandsSpare() {
        SlotSeries x = with("weeks 10;carrier a;series a mon 8 in 0-9;series a mon 8 in 0-6;series a mon 8 in 4-9;");
        due(17, "use(0, 0)", x.use(0, 0), 10);
        due(17, "use(0, 1)", x.use(0, 1), 0);
        due(18, "stands(0)", x.stands(0), 0);
        due(19, "spare(0)", x.spare(0), 2);
        due(19, "spare(1): 6 of 7", x.spare(1), 1);
        due(19, "spare(2): 5 of 6", x.spare(2), 1);
        x.back(2, 4);
        due(17, "BASIS 0", x.use(2, 0), 0);
        due(18, "stands of BASIS 0", x.stands(2), 2);
        due(19, "spare of BASIS 0", x.spare(2), -1);
        for (int w = 0; w < 7; w++) x.excuse(0, w);
        due(17, "GOOD of EXCUSED ones", x.use(0, 1), 7);
        due(18, "stands with 7 of 10", x.stands(0), 0);
        due(19, "spare with 3 OPEN", x.spare(0), 2);
        x.excuse(0, 7);
        due(18, "stands with 8 of 10", x.stands(0), 1);
        due(19, "spare with 2 OPEN", x.spare(0), 2);
        x.excuse(0, 8);
        due(19, "spare with 1 OPEN", x.spare(0), 1);
        x.miss(1, 0);
        due(18, "stands with one MISSED of 7", x.stands(1), 0);
        due(19, "spare then", x.spare(1), 0);
        x.miss(1, 1);
        due(18, "stands with two MISSED of 7", x.stands(1), 2);
        due(19, "spare then", x.spare(1), -1);
        x.back(1, 4);
        due(17, "BASIS without GIVEN ones", x.use(1, 0), 4);
        noSuch(17, "use", x.use(3, 0), x.use(-1, 0), x.use(0, 2), x.use(0, -1), x.use(MAX, MIN));
        noSuch(18, "stands", x.stands(3), x.stands(-1), x.stands(MAX), x.stands(MIN));
        noSuch(19, "spare", x.spare(3), x.spare(-1), x.spare(MAX), x.spare(MIN));
    }

    private static void carriers() {
        SlotSeries x = with("weeks 10;carrier a;carrier b;carrier c;series a mon 8 in 0-9;series b mon 8 out 0-9;series a mon 9 in 0-4;series a tue 8 in 0-4;");
        due(20, "of(0, -1)", x.of(0, -1), 13);
        due(20, "of(0, 0)", x.of(0, 0), 5);
        due(20, "of(0, 1)", x.of(0, 1), 8);
        due(20, "of(1, -1)", x.of(1, -1), 2);
        due(20, "of(2, -1)", x.of(2, -1), 0);
        due(20, "of(2, 6)", x.of(2, 6), 0);
        noSuch(20, "of", x.of(3, 0), x.of(-1, 0), x.of(0, 7), x.of(0, -2), x.of(0, MIN), x.of(MAX, -1));
        due(21, "entrant with 2", x.entrant(0, 0), 0);
        due(21, "entrant with 1", x.entrant(0, 1), 1);
        due(21, "entrant with 0", x.entrant(2, 0), 1);
        noSuch(21, "entrant", x.entrant(3, 0), x.entrant(-1, 0), x.entrant(0, 7), x.entrant(0, -1), x.entrant(MIN, MAX));
        x.miss(0, 0);
        x.excuse(2, 1);
        x.back(3, 4);
        x.tick();
        int[] want = {15, 2, 1, 1, 1};
        for (int k = 0; k < 5; k++) due(22, "sum(0, " + k + ")", x.sum(0, k), want[k]);
        due(22, "sum(2, 0)", x.sum(2, 0), 0);
        noSuch(22, "sum", x.sum(3, 0), x.sum(-1, 0), x.sum(0, 5), x.sum(0, -1), x.sum(MAX, MIN));
    }

    private static void bestAndMost() {
        SlotSeries x = with("weeks 12;carrier a;carrier b;carrier c;carrier d;"
                + "series b mon 8 in 0-5;series b mon 8 in 0-11;series d mon 8 in 0-8;series c tue 8 in 4-8;series d mon 9 in 4-8;");
        // b 12 of 18, d 9 of 14 need 9/14 against 12/18: 0.643, 0.667.
        for (int w = 0; w < 12; w++) x.excuse(1, w);
        for (int w = 0; w < 9; w++) x.excuse(2, w);
        int[] want = {1, 3, 2, 0};
        for (int k = 0; k < 4; k++) due(23, "best(" + k + ")", x.best(k), want[k]);
        x.back(4, 6);
        // d has 9 of 11 then: 0.818; c and a: GOOD 0, and BASIS 0, which comes last.
        int[] then = {3, 1, 2, 0};
        for (int k = 0; k < 4; k++) due(23, "best(" + k + ") then", x.best(k), then[k]);
        due(23, "best(4)", x.best(4), -1);
        due(23, "best(far)", x.best(MAX), -1);
        noSuch(23, "best", x.best(-1), x.best(MIN));
        // 2 of 6 and 3 of 9 are like ones.
        x = with("weeks 9;carrier a;carrier b;series b mon 8 in 0-8;series a mon 8 in 0-5;");
        for (int w = 0; w < 3; w++) x.excuse(0, w);
        for (int w = 0; w < 2; w++) x.excuse(1, w);
        due(23, "best of like ones", x.best(0), 0);
        x = with("weeks 12;carrier a;carrier b;carrier c;carrier d;"
                + "series b mon 8 in 0-5;series b mon 8 in 0-11;series d mon 8 in 0-8;series c tue 8 in 4-8;series d mon 9 in 3-11;");
        int[] most = {1, 3, 0, 2};
        for (int k = 0; k < 4; k++) due(59, "most(0, " + k + ")", x.most(0, k), most[k]);
        x.back(0, 5);
        due(59, "most(0, 0) then", x.most(0, 0), 3);
        due(59, "most(1, 0)", x.most(1, 0), 2);
        due(59, "most(1, 1)", x.most(1, 1), 0);
        due(59, "most(6, 0)", x.most(6, 0), 0);
        due(59, "most(0, 4)", x.most(0, 4), -1);
        noSuch(59, "most", x.most(0, -1), x.most(7, 0), x.most(-1, 0), x.most(7, 9), x.most(0, MIN));
    }

    private static void peaks() {
        SlotSeries x = with("weeks 6;carrier a;series a sun 23 in 0-4;series a sun 23 in 1-5;series a wed 3 out 1-5;series a wed 3 out 1-5;series a mon 0 in 0-4;");
        due(24, "peak(0)", x.peak(0), 2);
        due(24, "peak(1)", x.peak(1), 1203);
        x.tick();
        x.tick();
        due(24, "peak(1) from NOW on", x.peak(1), 2203);
        ticks(x, 3);
        due(24, "peak(0) in the last WEEK", x.peak(0), 2);
        due(24, "peak(1) in the last WEEK", x.peak(1), 5203);
        noSuch(24, "peak", x.peak(2), x.peak(-1), x.peak(MAX));
        x.tick();
        due(24, "peak(0), the season being over", x.peak(0), -1);
        due(24, "peak(1), the season being over", x.peak(1), -1);
        due(24, "peak(2), the season being over", x.peak(2), -2);
        x = with("weeks 6;");
        x.tick();
        due(24, "peak(0) of nothing", x.peak(0), 0);
        due(24, "peak(1) of nothing", x.peak(1), 1000);
        x = with("weeks 6;limit 5 2 in 1;limit 6 0 in 0;carrier a;series a mon 5 in 0-5;series a mon 5 out 0-4;");
        due(25, "full(0)", x.full(0), 6 + 5);
        due(25, "full(1)", x.full(1), 6);
        x.tick();
        due(25, "full(0) then", x.full(0), 5 + 4);
        ticks(x, 5);
        due(25, "full(0), the season being over", x.full(0), 0);
        noSuch(25, "full", x.full(7), x.full(-1), x.full(MAX));
    }

    private static void fittingAndAsks() {
        SlotSeries x = with("weeks 12;limit 5 2 in 1;limit 6 0 in 0;carrier a;series a mon 5 in 0-5;series a mon 5 out 2-6;"
                + "ask a mon 5 in 0-4;ask a mon 5 out 7-11;ask a mon 5 in 6-11;ask a mon 5 out 0-4 by 2;ask a mon 6 in 0-11 by 1;ask a mon 6 in 0-11 by 9;");
        int no6 = ALL_HOURS & ~64;
        due(26, "fitting in, ahead of both", x.fitting(0, 0, 0, 1), no6 & ~32);
        due(26, "fitting out, ahead of both", x.fitting(0, 1, 0, 1), no6);
        due(26, "fitting out, with both", x.fitting(0, 1, 0, 2), no6 & ~32);
        due(26, "fitting in, behind the first", x.fitting(0, 0, 6, 11), no6);
        due(26, "fitting of one WEEK", x.fitting(0, 1, 5, 5), no6 & ~32);
        due(26, "fitting on another DAY", x.fitting(6, 0, 0, 11), no6);
        noSuch(26, "fitting", x.fitting(7, 0, 0, 4), x.fitting(-1, 0, 0, 4), x.fitting(0, 2, 0, 4), x.fitting(0, -1, 0, 4), x.fitting(0, 0, -1, 4), x.fitting(0, 0, 0, 12), x.fitting(0, 0, 12, 12), x.fitting(0, 0, 4, 3), x.fitting(MAX, MIN, MAX, MIN));
        int[] fits = {0, 1, 1, 0, 0, 0};
        int[] where = {-1, 5, 5, 4, 7, 7};
        for (int a = 0; a < 6; a++) {
            due(27, "fits(" + a + ")", x.fits(a), fits[a]);
            due(28, "where(" + a + ")", x.where(a), where[a]);
        }
        ticks(x, 5);
        due(27, "fits(0), its weeks gone by", x.fits(0), -1);
        due(28, "where(0), its weeks gone by", x.where(0), -1);
        due(27, "fits(3), its weeks gone by", x.fits(3), -1);
        due(26, "fitting of weeks gone by", x.fitting(0, 0, 0, 4), ALL_HOURS);
        due(26, "fitting of the one week left", x.fitting(0, 0, 0, 5), no6 & ~32);
        ticks(x, 7);
        due(26, "fitting, the season being over", x.fitting(0, 0, 0, 11), ALL_HOURS);
        due(27, "fits(2), the season being over", x.fits(2), -1);
        noSuch(27, "fits", x.fits(6), x.fits(-1), x.fits(MAX));
        noSuch(28, "where", x.where(6), x.where(-1), x.where(MIN));
        x = with("weeks 6;limit 0 0 in 0;carrier a;ask a mon 5 in 0-4;");
        due(25, "full of the first HOUR", x.full(6), 6);
        due(26, "fitting but the first HOUR", x.fitting(6, 1, 0, 5), ALL_HOURS & ~1);
        ticks(x, 4);
        due(27, "fits with its last WEEK", x.fits(0), 1);
        due(28, "where with its last WEEK", x.where(0), 5);
        x.tick();
        due(27, "fits behind its last WEEK", x.fits(0), -1);
        x = with("weeks 5;limit 1 0 in 0;carrier a;ask a mon 1 in 0-4 by 1;");
        due(28, "where: the first HOUR", x.where(0), 0);
        // The last hours of the day: none below 0, none above 23; of two as near the earlier one.
        x = with("weeks 5;limit 0 0 in 0;limit 1 0 in 0;limit 23 0 in 0;limit 10 0 in 0;carrier a;"
                + "ask a mon 0 in 0-4 by 1;ask a mon 0 in 0-4 by 2;ask a mon 23 in 0-4 by 1;ask a mon 10 in 0-4 by 1;ask a mon 23 in 0-4;");
        int[] edge = {-1, 2, 22, 9, -1};
        for (int a = 0; a < 5; a++) due(28, "where(" + a + ") at the edges", x.where(a), edge[a]);
        // At 24 series none is granted, though it fits.
        StringBuilder b = new StringBuilder("weeks 5;carrier a;");
        for (int i = 0; i < 24; i++) b.append("series a mon " + i + " in 0-4;");
        x = with(b + "ask a tue 1 in 0-4;");
        due(27, "fits at 24 series", x.fits(0), 1);
        due(28, "where at 24 series", x.where(0), -1);
        due(31, "would at 24 series", x.would(), 0);
        due(42, "pool at 24 series", x.pool(), 0);
        due(51, "turn at 24 series", x.turn(0), 0);
        due(52, "granted at 24 series", x.granted(0), -1);
        due(42, "no act", x.count(6), 0);
        x = with(b.substring(0, b.length() - "series a mon 23 in 0-4;".length()) + "ask a tue 1 in 0-4;ask a tue 2 in 0-4;");
        due(42, "pool at 23 series", x.pool(), 1);
        due(42, "SERIES then", x.count(2), 24);
        due(42, "ASKS then", x.count(3), 1);
        due(42, "the one that waits", x.asked(0, 2), 2);
    }

    private static void blockedAsks() {
        SlotSeries x = with("weeks 12;limit 5 2 in 1;carrier a;series a mon 5 in 0-5;series a mon 5 out 2-6;series a mon 6 in 0-5;"
                + "ask a mon 5 in 0-4;ask a mon 5 out 0-4;ask a mon 5 in 5-9;ask a mon 5 in 6-11;ask a mon 5 in 1-5;");
        int[] want = {1, 3, 1, 0, 1};
        for (int a = 0; a < 5; a++) due(29, "blocked(" + a + ")", x.blocked(a), want[a]);
        ticks(x, 5);
        due(29, "blocked(0), its weeks gone by", x.blocked(0), 0);
        due(29, "blocked(2), a week left", x.blocked(2), 1);
        x.tick();
        due(29, "blocked(2), the other gone by", x.blocked(2), 0);
        noSuch(29, "blocked", x.blocked(5), x.blocked(-1), x.blocked(MAX));
        // Two stand in the way, in different weeks: none alone.
        x = with("weeks 10;limit 5 1 in 1;carrier a;series a mon 5 in 0-4;series a mon 5 in 5-9;ask a mon 5 in 0-9;");
        due(29, "blocked by two", x.blocked(0), 0);
        due(27, "fits then", x.fits(0), 0);
    }

    private static void poolOrder() {
        // a has two series on mon; b, c none.
        String s = "weeks 12;carrier a;carrier b;carrier c;series a mon 1 in 0-11;series a mon 1 out 0-11;";
        SlotSeries x = with(s + "ask a mon 5 in 0-9;ask b mon 5 in 0-4;ask a mon 6 in 0-11;ask c mon 5 in 0-4;ask a tue 5 in 0-5;ask a mon 5 in 0-4;");
        due(30, "first()", x.first(), 4);
        int[] turns = {3, 2, 1, 4, 0, 5};
        for (int a = 0; a < 6; a++) due(51, "turn(" + a + ")", x.turn(a), turns[a]);
        noSuch(51, "turn", x.turn(6), x.turn(-1), x.turn(MAX));
        // None of the one sort is left: the turn goes on all the same.
        x = with(s + "ask a mon 5 in 0-9;ask a mon 5 in 0-11;ask a mon 5 in 0-10;");
        due(30, "first() without an entrant", x.first(), 1);
        due(51, "turn", x.turn(2), 1);
        due(51, "turn", x.turn(0), 2);
        // b is an entrant till it has two: its third ask is another's sort then.
        x = with("weeks 12;limit 9 0 in 0;carrier a;carrier b;ask b mon 5 in 0-11;ask b mon 6 in 0-10;ask b mon 7 in 0-9;ask a mon 8 in 0-4;ask a mon 8 in 0-5;");
        int[] later = {0, 1, 3, 4, 2};
        for (int a = 0; a < 5; a++) due(51, "turn(" + a + ") as grants go", x.turn(a), later[a]);
        // What is not granted counts for no series, yet the turn goes on.
        x = with("weeks 12;limit 9 0 in 0;carrier a;carrier b;series a mon 1 in 0-11;series a mon 2 in 0-11;"
                + "ask b mon 9 in 0-11;ask b mon 9 in 0-10;ask b mon 9 in 0-9;ask a mon 8 in 0-4;ask a mon 8 in 0-5;");
        int[] idle = {0, 2, 4, 3, 1};
        for (int a = 0; a < 5; a++) due(51, "turn(" + a + ") without grants", x.turn(a), idle[a]);
        // As asked: weeks gone by count.
        x = with("weeks 12;carrier a;ask a mon 5 in 0-7;ask a mon 5 in 5-11;");
        ticks(x, 7);
        due(30, "first() by weeks as asked", x.first(), 0);
        x.tick();
        due(30, "first() though it can't be granted", x.first(), 0);
        due(51, "turn of the other", x.turn(1), 1);
        x.drop(0);
        due(30, "first() of one", x.first(), 0);
        x.drop(0);
        due(30, "first() of none", x.first(), -1);
    }

    private static void poolGrants() {
        SlotSeries x = with("weeks 12;limit 5 2 in 1;limit 4 1 in 1;carrier a;carrier b;series a mon 5 in 0-11;"
                + "ask a mon 5 in 0-11;ask b mon 5 in 0-10 by 1;ask b mon 5 out 3-11 by 3;ask a mon 5 out 3-11;ask a mon 5 in 0-9 by 2;ask a tue 4 in 0-4 by 1;");
        // Looked at: 0 (a has one, so it is an entrant; no room), 1 (b's, at 4), 4 (a's, at 6: a has two then),
        // 3 (a's, of the other sort, at 5), 2 (b's; 5 and 4 are full, at 6), 5 (a's on tue).
        int[] hour = {-1, 4, 6, 5, 6, 4};
        int[] turn = {0, 1, 4, 3, 2, 5};
        for (int a = 0; a < 6; a++) {
            due(52, "granted(" + a + ")", x.granted(a), hour[a]);
            due(51, "turn(" + a + ")", x.turn(a), turn[a]);
        }
        noSuch(52, "granted", x.granted(6), x.granted(-1), x.granted(MIN));
        due(31, "would()", x.would(), 5);
        due(31, "would() does nothing", x.count(2) * 10 + x.count(3), 16);
        x.tick();
        x.tick();
        due(42, "pool()", x.pool(), 5);
        due(42, "an act", x.count(6), 3);
        due(42, "SERIES then", x.count(2), 6);
        due(42, "ASKS then", x.count(3), 1);
        due(42, "the one that waits", x.asked(0, 5), 11);
        int[][] made = {{1, 0, 4, 0, 1, 2047 & ~3}, {0, 0, 6, 0, 1, 1023 & ~3}, {0, 0, 5, 1, 1, 4095 & ~7}, {1, 0, 6, 1, 1, 4095 & ~7}, {0, 1, 4, 0, 1, 31 & ~3}};
        for (int i = 0; i < 5; i++)
            for (int k = 0; k < 6; k++) due(42, "series(" + (i + 1) + ", " + k + ")", x.series(i + 1, k), made[i][k]);
        due(42, "its WEEKS are OPEN", x.weeks(1, 0), 2047 & ~3);
        due(42, "pool() again", x.pool(), 0);
        due(42, "no act", x.count(6), 3);
        x.undo();
        due(42, "undone: ASKS", x.count(3), 6);
        due(42, "undone: SERIES", x.count(2), 1);
        ticks(x, 3);
        due(31, "would(), one's weeks gone by", x.would(), 4);
        due(52, "granted(5), its weeks gone by", x.granted(5), -1);
        ticks(x, 7);
        due(31, "would(), the season being over", x.would(), 0);
        due(42, "pool(), the season being over", x.pool(), 0);
        // clash
        x = with("weeks 12;carrier a;ask a mon 5 in 0-7;ask a mon 5 out 4-11;ask a tue 5 in 0-7;ask a mon 6 in 0-7;ask a mon 5 in 7-11;");
        due(53, "clash(0, 1)", x.clash(0, 1), 4);
        due(53, "clash(1, 0)", x.clash(1, 0), 4);
        due(53, "clash(0, 0)", x.clash(0, 0), 8);
        due(53, "clash(0, 2)", x.clash(0, 2), 0);
        due(53, "clash(0, 3)", x.clash(0, 3), 0);
        due(53, "clash(0, 4)", x.clash(0, 4), 1);
        x.tick();
        due(53, "clash as asked", x.clash(0, 0), 8);
        noSuch(53, "clash", x.clash(0, 5), x.clash(5, 0), x.clash(-1, 0), x.clash(0, -1), x.clash(MAX, MIN));
        x.drop(0);
        x.drop(0);
        due(53, "clash apart", x.clash(0, 2), 0);
    }

    private static void helping() {
        SlotSeries x = with("weeks 6;limit 5 0 in 0;limit 7 1 in 0;limit 9 9 in 9;carrier a;series a mon 7 out 0-5;"
                + "ask a mon 5 in 0-5;ask a mon 7 in 0-5;ask a tue 7 in 0-5;ask a mon 9 in 0-5;");
        due(31, "would()", x.would(), 1);
        due(32, "helps(0)", x.helps(0), 7);
        due(32, "helps(1)", x.helps(1), 3);
        due(32, "limits stay", x.limitOf(7, 0) * 10 + x.limitOf(7, 1), 10);
        noSuch(32, "helps", x.helps(2), x.helps(-1), x.helps(MAX));
        x = with("weeks 6;carrier a;ask a mon 5 in 0-5;");
        due(32, "helps(0) of like ones", x.helps(0), 0);
        due(32, "helps(1) of like ones", x.helps(1), 1);
        x = with("weeks 6;");
        due(32, "helps(0) of none", x.helps(0), 0);
        due(32, "helps(1) of none", x.helps(1), 0);
        x = with("weeks 6;limit 0 0 in 0;carrier a;ask a mon 0 in 0-5;");
        due(32, "helps(0): the first HOUR", x.helps(0) * 10 + x.helps(1), 1);
        x = with("weeks 6;limit 23 0 in 0;carrier a;ask a mon 23 in 0-5;");
        due(32, "helps(0): the last HOUR", x.helps(0) * 10 + x.helps(1), 231);
        StringBuilder b = new StringBuilder("weeks 6;limit 9 9 in 9;carrier a;");
        for (int i = 0; i < 10; i++) b.append("ask a mon 9 in 0-5;");
        x = with(b.toString());
        due(31, "would() at 9 in 9", x.would(), 9);
        due(32, "helps(0) at 9 in 9", x.helps(0), 9);
        due(32, "helps(1) at 9 in 9", x.helps(1), 10);
    }

    private static void keptCommonIdle() {
        SlotSeries x = with("weeks 6;carrier a;series a mon 5 in 0-4;series a mon 5 out 1-5;series a mon 6 out 0-5;series a tue 5 out 0-5;");
        due(33, "kept(0)", x.kept(0), 0);
        due(33, "kept(1)", x.kept(1), 0);
        for (int w = 0; w < 4; w++) x.excuse(0, w);
        x.miss(2, 1);
        due(33, "kept(1)", x.kept(1), 0);
        x.miss(2, 2);
        due(33, "kept(0)", x.kept(0), 1);
        due(33, "kept(1)", x.kept(1), 4);
        noSuch(33, "kept", x.kept(2), x.kept(-1), x.kept(MIN));
        due(34, "common(0, 1)", x.common(0, 1), 4);
        due(34, "common(1, 0)", x.common(1, 0), 4);
        due(34, "common(1, 1)", x.common(1, 1), 5);
        due(34, "common(0, 2)", x.common(0, 2), 0);
        due(34, "common(0, 3)", x.common(0, 3), 0);
        x.back(1, 4);
        due(34, "common without GIVEN ones", x.common(0, 1), 3);
        due(34, "common of one without GIVEN ones", x.common(1, 1), 3);
        due(34, "common without the other's GIVEN ones", x.common(1, 0), 3);
        noSuch(34, "common", x.common(0, 4), x.common(4, 0), x.common(-1, 0), x.common(0, -1), x.common(MAX, MIN));
        due(35, "idle(0)", x.idle(0), ALL_HOURS & ~96);
        due(35, "idle(1)", x.idle(1), ALL_HOURS & ~32);
        due(35, "idle(6)", x.idle(6), ALL_HOURS);
        due(35, "retime", x.retime(3, 0), 5);
        due(35, "idle(1) of the first HOUR", x.idle(1), ALL_HOURS & ~1);
        due(35, "retime", x.retime(3, 23), 0);
        due(35, "idle(1) of the last HOUR", x.idle(1), ALL_HOURS >> 1);
        due(35, "retime", x.retime(0, 0), 5);
        due(35, "idle(0) of the first SERIES", x.idle(0), ALL_HOURS & ~97);
        ticks(x, 5);
        due(35, "idle(0) in the last WEEK", x.idle(0), ALL_HOURS & ~64);
        x.tick();
        due(35, "idle(0), the season being over", x.idle(0), ALL_HOURS);
        noSuch(35, "idle", x.idle(7), x.idle(-1), x.idle(MAX));
    }

    private static void missExcuseFly() {
        SlotSeries x = with("weeks 10;carrier a;series a mon 5 in 0-9;series a mon 5 in 2-6;");
        due(36, "miss(0, 0)", x.miss(0, 0), 1);
        due(36, "week(0, 0)", x.week(0, 0), 2);
        due(36, "miss(0, 0) again", x.miss(0, 0), -6);
        due(36, "miss(0, 9)", x.miss(0, 9), 0);
        due(36, "miss(0, 8)", x.miss(0, 8), -1);
        due(36, "miss of what it has not", x.miss(1, 0), -6);
        due(36, "acts", x.count(6), 3);
        noSuch(36, "miss", x.miss(2, 0), x.miss(-1, 0), x.miss(0, 10), x.miss(0, -1), x.miss(MAX, MIN));
        due(37, "excuse of a MISSED one", x.excuse(0, 0), 1);
        due(37, "excuse of an OPEN one", x.excuse(0, 1), 2);
        due(37, "excuse of an EXCUSED one", x.excuse(0, 1), -6);
        due(37, "excuse of what it has not", x.excuse(1, 9), -6);
        due(37, "acts", x.count(6), 5);
        noSuch(37, "excuse", x.excuse(2, 0), x.excuse(-1, 0), x.excuse(0, 10), x.excuse(0, -1), x.excuse(MIN, MAX));
        due(38, "fly of an EXCUSED one", x.fly(0, 0), 3);
        due(38, "fly of a MISSED one", x.fly(0, 9), 2);
        due(38, "OPEN again", x.week(0, 0) + x.week(0, 9), 0);
        due(38, "fly of an OPEN one", x.fly(0, 0), -6);
        due(38, "fly of what it has not", x.fly(1, 0), -6);
        due(38, "acts", x.count(6), 7);
        noSuch(38, "fly", x.fly(2, 0), x.fly(-1, 0), x.fly(0, 10), x.fly(0, -1), x.fly(MAX, MAX));
        x.miss(1, 2);
        x.back(1, 6);
        ticks(x, 3);
        due(36, "miss of a FLOWN one", x.miss(0, 0), -6);
        due(37, "excuse of a FLOWN one", x.excuse(0, 0), -6);
        due(37, "excuse of a GIVEN one", x.excuse(1, 6), -6);
        due(36, "miss of a GIVEN one", x.miss(1, 6), -6);
        due(38, "fly of a GIVEN one", x.fly(1, 6), -6);
        due(38, "fly ahead of NOW", x.fly(1, 2), -6);
        due(37, "excuse ahead of NOW", x.excuse(1, 2), 1);
        due(38, "fly of it, ahead of NOW", x.fly(1, 2), -6);
        due(38, "fly from NOW on", x.miss(0, 3) * 10 + x.fly(0, 3), 2);
    }

    private static void givingBack() {
        SlotSeries x = with("weeks 12;carrier a;carrier b;series a mon 5 in 0-9;series a mon 6 in 2-6;series a tue 5 in 0-11;series b mon 5 in 0-11;");
        x.tick();
        due(39, "back(0, 4): not so far", x.back(0, 4), -6);
        due(39, "back(0, 0): gone by", x.back(0, 0), -6);
        due(39, "no act", x.count(6), 1);
        x.miss(0, 7);
        x.excuse(0, 8);
        due(39, "back(0, 5)", x.back(0, 5), 3);
        due(39, "weeks(0, 4)", x.weeks(0, 4), 32 + 64 + 512);
        due(39, "an act", x.count(6), 4);
        due(39, "back(0, 5) again", x.back(0, 5), 0);
        due(39, "back behind its last", x.back(0, 11), 0);
        due(39, "no act", x.count(6), 4);
        noSuch(39, "back", x.back(4, 6), x.back(-1, 6), x.back(0, 12), x.back(0, -1), x.back(MAX, MIN), x.back(0, MAX));
        due(40, "gives(0, 0)", x.gives(0, 0), 2);
        due(40, "weeks(1, 4)", x.weeks(1, 4), 32 + 64);
        due(40, "weeks(2, 4)", x.weeks(2, 4), 0);
        due(40, "weeks(3, 4)", x.weeks(3, 4), 0);
        due(40, "one act", x.count(6), 5);
        due(40, "gives(0, 0) again", x.gives(0, 0), 0);
        due(40, "no act", x.count(6), 5);
        due(40, "gives(0, 1)", x.gives(0, 1), 7);
        due(40, "gives(1, 6)", x.gives(1, 6), 0);
        noSuch(40, "gives", x.gives(2, 0), x.gives(-1, 0), x.gives(0, 7), x.gives(0, -1), x.gives(MAX, MIN));
        x.undo();
        x.undo();
        due(40, "undone", x.weeks(1, 4) + x.weeks(2, 4), 0);
        ticks(x, 7);
        due(39, "back(2, 11): 3 behind NOW", x.back(2, 11), -6);
        due(40, "gives, too near the end", x.gives(0, 1), 0);
        // Of 30 weeks, the season being over.
        x = with("weeks 30;carrier a;series a mon 5 in 0-29;");
        ticks(x, 30);
        due(40, "gives, the season being over", x.gives(0, 0), 0);
        due(39, "back, the season being over", x.back(0, 29), -6);
        due(41, "FLOWN all", x.weeks(0, 1), (1 << 30) - 1);
    }

    private static void ticking() {
        SlotSeries x = with("weeks 5;carrier a;series a mon 5 in 0-4;series a mon 5 in 0-4;");
        x.miss(0, 0);
        x.excuse(1, 1);
        due(41, "tick()", x.tick(), 1);
        due(41, "the MISSED one", x.week(0, 0), 2);
        due(41, "the OPEN one", x.week(1, 0), 1);
        due(41, "the next", x.week(1, 2), 0);
        due(41, "acts", x.count(6), 3);
        for (int k = 2; k <= 5; k++) due(41, "tick()", x.tick(), k);
        due(41, "the EXCUSED one", x.week(1, 1), 3);
        due(41, "tick(), the season being over", x.tick(), -1);
        due(41, "acts", x.count(6), 7);
    }

    private static void retiming() {
        SlotSeries x = with("weeks 10;limit 5 2 in 1;limit 7 1 in 1;limit 6 0 in 0;carrier a;series a mon 5 in 0-9;series a mon 8 in 0-4;series a mon 8 out 5-9;series a mon 7 out 3-7;series a mon 9 in 5-9 new;");
        int some = ALL_HOURS & ~64;
        due(56, "movable(0)", x.movable(0), some & ~(32 + 128));
        due(56, "movable(1)", x.movable(1), some & ~(32 + 128 + 256));
        due(56, "movable(2)", x.movable(2), some & ~(128 + 256));
        due(56, "movable(3)", x.movable(3), some & ~128);
        due(43, "retime(1, 5)", x.retime(1, 5), -6);
        due(43, "retime(1, 6)", x.retime(1, 6), -6);
        due(43, "retime(1, 8): it has it", x.retime(1, 8), -6);
        due(43, "no act", x.count(6), 0);
        due(43, "retime(2, 5)", x.retime(2, 5), 8);
        due(43, "its HOUR", x.series(2, 2), 5);
        due(43, "an act", x.count(6), 1);
        due(43, "retime of a new one", x.retime(4, 23), 9);
        noSuch(43, "retime", x.retime(5, 0), x.retime(-1, 0), x.retime(0, 24), x.retime(0, -1), x.retime(MAX, MIN));
        noSuch(56, "movable", x.movable(5), x.movable(-1), x.movable(MAX));
        ticks(x, 8);
        // Series 3 has no week left: it goes to any other hour.
        due(56, "movable(3) then", x.movable(3), ALL_HOURS & ~128);
        due(43, "retime to an hour of none", x.retime(3, 6), 7);
        ticks(x, 2);
        due(43, "retime, the season being over", x.retime(0, 1), -6);
        due(56, "movable, the season being over", x.movable(0), 0);
        // GIVEN weeks are in nobody's way, nor do they ask for room.
        x = with("weeks 10;limit 7 1 in 1;carrier a;series a mon 7 in 0-9;series a mon 8 in 5-9;series a mon 9 in 0-9;");
        due(43, "retime ahead of giving", x.retime(1, 7), -6);
        x.back(0, 5);
        due(43, "retime to GIVEN weeks", x.retime(1, 7), 8);
        x.retime(1, 8);
        x.undo();
        due(43, "retime by weeks that it has", x.back(2, 4) * 100 + x.retime(2, 7), 600 - 6);
    }

    private static void swapping() {
        SlotSeries x = with("weeks 6;limit 7 1 in 0;carrier a;carrier b;series a mon 5 in 0-5;series b tue 7 out 0-4;series b wed 9 in 0-4;series a thu 1 out 0-4 new;series a fri 2 out 0-5;");
        due(44, "swap of one CARRIER's", x.swap(0, 4), -6);
        due(44, "swap with a new one", x.swap(3, 1), -5);
        due(44, "swap with a new one", x.swap(1, 3), -5);
        due(44, "swap with a new one of its CARRIER", x.swap(0, 3), -5);
        due(44, "swap with itself", x.swap(0, 0), -6);
        due(44, "swap of a new one with itself", x.swap(3, 3), -5);
        due(57, "partners(0)", x.partners(0), 2 + 4);
        due(57, "partners(1)", x.partners(1), 1 + 16);
        due(57, "partners(3)", x.partners(3), 0);
        due(44, "no act", x.count(6), 0);
        due(44, "swap(0, 1)", x.swap(0, 1), 1);
        int[] want = {0, 1, 7, 1, 0, 63, 1, 0, 5, 0, 0, 31};
        for (int i = 0; i < 12; i++) due(44, "series(" + i / 6 + ", " + i % 6 + ")", x.series(i / 6, i % 6), want[i]);
        due(44, "an act", x.count(6), 1);
        due(44, "swap(2, 0)", x.swap(2, 0), 1);
        due(44, "swap(0, 2)", x.swap(0, 2), 1);
        due(44, "back where it was", x.series(0, 2), 7);
        noSuch(44, "swap", x.swap(5, 0), x.swap(0, 5), x.swap(-1, 0), x.swap(0, -1), x.swap(MAX, MIN));
        noSuch(57, "partners", x.partners(5), x.partners(-1), x.partners(MAX));
        // A third one stands in the way of the longer one.
        x = with("weeks 10;limit 7 1 in 1;carrier a;carrier b;series a mon 7 in 0-4;series a mon 7 in 5-9;series b mon 8 in 0-9;series b tue 1 in 0-4;");
        due(44, "swap(0, 2)", x.swap(0, 2), -6);
        due(44, "swap(2, 0)", x.swap(2, 0), -6);
        due(57, "partners(2)", x.partners(2), 0);
        due(57, "partners(3): the other one's weeks are taken", x.partners(3), 1);
        due(44, "swap(0, 3)", x.swap(0, 3), 1);
                ticks(x, 10);
        due(44, "swap, the season being over", x.swap(0, 2), 1);
        // GIVEN weeks ask for no room, of either one.
        x = with("weeks 10;limit 7 1 in 1;carrier a;carrier b;series a mon 7 in 0-4;series a mon 7 in 5-9;series b mon 8 in 0-9;");
        x.back(2, 5);
        due(44, "swap(2, 0) with GIVEN weeks", x.swap(2, 0), 1);
        x.undo();
        due(44, "swap(0, 2) with GIVEN weeks", x.swap(0, 2), 1);
        due(57, "partners(1): weeks 0 to 4 are taken", x.partners(1), 4);
        // Like ones, at one full hour.
        x = with("weeks 5;limit 7 3 in 1;carrier a;carrier b;series a mon 7 out 0-4;series b mon 7 in 0-4;series b mon 7 out 0-4;");
        due(44, "swap of like ones", x.swap(0, 2), 1);
        due(44, "an act", x.count(6), 1);
        due(44, "swap at one hour", x.swap(0, 1), 1);
        due(44, "its way", x.series(0, 3) * 10 + x.series(1, 3), 1);
    }

    private static void handing() {
        SlotSeries x = with("weeks 5;carrier a;carrier b;series a mon 7 out 0-4;series b mon 7 in 0-4 new;");
        due(45, "hand(0, 0)", x.hand(0, 0), -6);
        due(45, "hand of a new one", x.hand(1, 0), -5);
        due(45, "hand of a new one to its own", x.hand(1, 1), -5);
        due(45, "no act", x.count(6), 0);
        due(45, "hand(0, 1)", x.hand(0, 1), 0);
        due(45, "its CARRIER", x.series(0, 0), 1);
        due(45, "an act", x.count(6), 1);
        noSuch(45, "hand", x.hand(2, 0), x.hand(-1, 0), x.hand(0, 2), x.hand(0, -1), x.hand(1, 2), x.hand(MAX, MIN));
    }

    private static void limiting() {
        SlotSeries x = with("weeks 6;limit 7 3 in 2;carrier a;series a mon 7 out 0-4;series a mon 7 in 0-4;series a tue 7 in 1-5;");
        due(46, "limit(7, 1, 1)", x.limit(7, 1, 1), -6);
        due(46, "limit(7, 2, 0)", x.limit(7, 2, 0), -6);
        due(46, "limit(7, 3, 2): as it was", x.limit(7, 3, 2), 32);
        due(46, "no act", x.count(6), 0);
        due(46, "limit(7, 2, 1)", x.limit(7, 2, 1), 32);
        due(46, "an act", x.count(6), 1);
        due(46, "limitOf", x.limitOf(7, 0) * 10 + x.limitOf(7, 1), 21);
        due(46, "limit(0, 9, 9)", x.limit(0, 9, 9), 44);
        due(46, "limit(0, 9, 0)", x.limit(0, 9, 0), 99);
        due(46, "limit(23, 0, 0)", x.limit(23, 0, 0), 44);
        noSuch(46, "limit", x.limit(24, 1, 1), x.limit(-1, 1, 1), x.limit(0, 10, 1), x.limit(0, -1, -1), x.limit(0, 3, 4), x.limit(0, 3, -1), x.limit(MAX, MIN, MAX));
        ticks(x, 5);
        due(46, "limit(7, 1, 1) then", x.limit(7, 1, 1), 21);
        due(46, "limit(7, 0, 0) then", x.limit(7, 0, 0), -6);
        x.tick();
        due(46, "limit, the season being over", x.limit(7, 0, 0), 11);
        due(25, "full of limits of 0, the season being over", x.full(0), 0);
    }

    private static void asking() {
        SlotSeries x = with("weeks 9;carrier a;carrier b;");
        due(47, "ask", x.ask(1, 6231, 4, 8, 9), 1);
        int[] want = {1, 6, 23, 1, 4, 8, 9};
        for (int k = 0; k < 7; k++) due(47, "asked(0, " + k + ")", x.asked(0, k), want[k]);
        due(47, "ask", x.ask(0, 0, 0, 8, 0), 2);
        due(47, "an act", x.count(6), 2);
        noSuch(47, "ask", x.ask(2, 0, 0, 4, 0), x.ask(-1, 0, 0, 4, 0), x.ask(0, -1, 0, 4, 0), x.ask(0, 2, 0, 4, 0), x.ask(0, 240, 0, 4, 0), x.ask(0, 999, 0, 4, 0), x.ask(0, 7000, 0, 4, 0), x.ask(0, 9, 0, 4, 0),
                x.ask(0, 0, 0, 3, 0), x.ask(0, 0, 5, 8, 0), x.ask(0, 0, 5, 9, 0), x.ask(0, 0, -1, 4, 0), x.ask(0, 0, 4, 0, 0), x.ask(0, 0, 0, 4, -1), x.ask(0, 0, 0, 4, 10), x.ask(0, MIN, MIN, MAX, 0), x.ask(0, 0, MIN, MAX, 0), x.ask(0, MAX, 0, 4, 0));
        ticks(x, 9);
        for (int i = 3; i <= 24; i++) due(47, "ask", x.ask(0, 10, 0, 4, 0), i);
        due(47, "ask at 24", x.ask(0, 10, 0, 4, 0), -5);
        due(47, "-2 ahead of -5", x.ask(0, 10, 0, 3, 0), -2);
        due(47, "ASKS", x.count(3), 24);
    }

    private static void dropping() {
        SlotSeries x = with("weeks 9;carrier a;ask a mon 1 in 0-4;ask a mon 2 in 0-4;ask a mon 3 in 0-4;");
        due(48, "drop(1)", x.drop(1), 2);
        due(48, "those behind it", x.asked(0, 2) * 10 + x.asked(1, 2), 13);
        due(48, "an act", x.count(6), 1);
        noSuch(48, "drop", x.drop(2), x.drop(-1), x.drop(MAX));
        due(48, "ask goes last", x.ask(0, 90, 0, 4, 0), 3);
        due(48, "the last", x.asked(2, 2), 9);
        x.undo();
        x.undo();
        due(48, "undone", x.asked(0, 2) * 100 + x.asked(1, 2) * 10 + x.asked(2, 2), 123);
        due(48, "drop(0)", x.drop(0), 2);
        due(48, "drop(0)", x.drop(0), 1);
        due(48, "drop(0)", x.drop(0), 0);
        due(48, "drop(0) of none", x.drop(0), -2);
    }

    private static void ending() {
        SlotSeries x = with("weeks 10;limit 3 5 in 5;carrier a;carrier b;series a mon 1 in 0-4;series a mon 2 in 0-4;series b mon 3 out 0-9 new;series b mon 4 in 0-9;series b tue 5 in 5-9;ask a mon 1 in 0-4;");
        x.miss(0, 0);
        x.miss(1, 0);
        x.miss(1, 1);
        x.excuse(2, 9);
        x.back(2, 5);
        x.back(4, 5);
        due(49, "ends() ahead of the end", x.ends(), -6);
        due(49, "no act", x.count(6), 6);
        ticks(x, 10);
        // 0: 4 of 5, kept; 1: 3 of 5; 2: 6 of 6; 3: 10 of 10; 4: of none.
        due(33, "kept(0) at the end", x.kept(0), 1 + 4 + 8);
        due(33, "kept(1) at the end", x.kept(1), 2 + 16);
        due(49, "ends()", x.ends(), 3);
        int[][] want = {{0, 0, 1, 0, 0, 31}, {1, 0, 3, 1, 0, 31 + 512}, {1, 0, 4, 0, 0, 1023}};
        for (int i = 0; i < 3; i++)
            for (int k = 0; k < 6; k++) due(49, "series(" + i + ", " + k + ")", x.series(i, k), want[i][k]);
        for (int i = 0; i < 3; i++) due(49, "its OPEN ones", x.weeks(i, 0), want[i][5]);
        due(49, "GIVEN ones gone", x.weeks(1, 4) + x.week(1, 5), -1);
        due(49, "SERIES", x.count(2), 3);
        due(49, "ASKS", x.count(3), 0);
        due(49, "NOW", x.count(4), 0);
        due(49, "seasons", x.count(5), 1);
        due(49, "limits stay", x.limitOf(3, 0), 5);
        due(49, "CARRIERS stay", x.count(1), 2);
        due(49, "a new one is none", x.hand(1, 0), 1);
        x.undo();
        due(50, "undo of ends()", x.undo(), 8);
        due(50, "SERIES again", x.count(2), 5);
        due(50, "ASKS again", x.count(3), 1);
        due(50, "NOW again", x.count(4), 10);
        due(50, "seasons again", x.count(5), 0);
        due(50, "what was GIVEN", x.weeks(2, 4), 480);
        due(50, "what was MISSED", x.weeks(1, 2), 3);
        due(50, "what was new", x.series(2, 4), 1);
        x = with("weeks 5;");
        ticks(x, 5);
        due(49, "ends() of none", x.ends(), 0);
        ticks(x, 5);
        x.ends();
        due(49, "seasons", x.count(5), 2);
    }

    private static void undoing() {
        SlotSeries x = with("weeks 20;carrier a;carrier b;series a mon 5 in 0-19;series b tue 6 out 0-19;ask a wed 7 in 0-4;ask b wed 7 in 0-4;");
        due(50, "undo() of none", x.undo(), -1);
        x.miss(0, 9);
        x.excuse(0, 8);
        x.fly(0, 9);
        x.back(0, 15);
        x.gives(1, 1);
        x.retime(0, 6);
        x.swap(0, 1);
        x.hand(0, 1);
        x.limit(3, 2, 1);
        x.pool();
        due(50, "count(6)", x.count(6), 10);
        due(50, "SERIES", x.count(2), 4);
        due(50, "undo() of pool()", x.undo(), 9);
        due(50, "SERIES", x.count(2) * 10 + x.count(3), 22);
        due(50, "undo() of limit()", x.undo(), 8);
        due(50, "the limit", x.limitOf(3, 0) * 10 + x.limitOf(3, 1), 44);
        due(50, "undo() of hand()", x.undo(), 7);
        due(50, "the CARRIER", x.series(0, 0), 0);
        due(50, "undo() of swap()", x.undo(), 6);
        due(50, "what it is by", x.series(0, 1) * 1000 + x.series(0, 2) * 10 + x.series(0, 3), 60);
        due(50, "undo() of retime()", x.undo(), 5);
        due(50, "the HOUR", x.series(0, 2), 5);
        due(50, "undo() of gives()", x.undo(), 4);
        due(50, "GIVEN ones", x.weeks(1, 4), 0);
        due(50, "undo() of back()", x.undo(), 3);
        due(50, "GIVEN ones", x.weeks(0, 4), 0);
        due(50, "undo() of fly()", x.undo(), 2);
        due(50, "the WEEK", x.week(0, 9), 2);
        due(50, "undo() of excuse()", x.undo(), 1);
        due(50, "the WEEK", x.week(0, 8), 0);
        due(50, "undo() of miss()", x.undo(), 0);
        due(50, "the WEEK", x.week(0, 9), 0);
        due(50, "undo() of none", x.undo(), -1);
        ticks(x, 13);
        due(50, "no more than 10", x.count(6), 10);
        for (int k = 9; k >= 0; k--) due(50, "undo() of tick()", x.undo(), k);
        due(50, "NOW", x.count(4), 3);
        due(50, "the WEEKS", x.weeks(0, 1), 7);
        due(50, "undo() of none", x.undo(), -1);
        x.tick();
        x.drop(0);
        x.ask(0, 0, 0, 4, 0);
        x.undo();
        due(50, "an act behind an undo()", x.count(3), 1);
        x.tick();
        due(50, "acts", x.count(6), 3);
        text(x, "weeks 5;");
        due(50, "nothing ahead of a text()", x.undo(), -1);
    }

    private static void ratesAndRuns() {
        SlotSeries x = with("weeks 9;carrier a;series a mon 5 in 0-8;series a mon 5 in 0-5;series a tue 5 in 4-8;");
        due(54, "rate(0)", x.rate(0), 0);
        x.excuse(0, 0);
        x.excuse(0, 4);
        due(54, "rate(0): 2 of 9", x.rate(0), 22);
        for (int w = 0; w < 4; w++) x.excuse(1, w);
        due(54, "rate(1): 4 of 6", x.rate(1), 66);
        x.back(2, 4);
        due(54, "rate of BASIS 0", x.rate(2), -1);
        x.undo();
        x.excuse(2, 4);
        x.back(2, 5);
        due(54, "rate of BASIS 1", x.rate(2), 100);
        due(18, "stands of BASIS 1", x.stands(2), 1);
        ticks(x, 9);
        due(54, "rate(0) of all", x.rate(0), 100);
        noSuch(54, "rate", x.rate(3), x.rate(-1), x.rate(MAX));
        x = with("weeks 9;carrier a;series a mon 5 in 0-8;series a mon 5 in 4-8;");
        due(55, "longest(0) of none", x.longest(0), 0);
        x.miss(0, 1);
        x.miss(0, 0);
        due(55, "longest(0) from the start", x.longest(0), 2);
        x.fly(0, 1);
        due(55, "longest(0)", x.longest(0), 1);
        x.miss(0, 2);
        x.miss(0, 3);
        x.miss(0, 5);
        due(55, "longest(0)", x.longest(0), 2);
        x.miss(0, 4);
        due(55, "longest(0)", x.longest(0), 4);
        x.excuse(0, 3);
        due(55, "longest(0)", x.longest(0), 2);
        for (int w = 4; w < 9; w++) x.miss(1, w);
        due(55, "longest(1) to the end", x.longest(1), 5);
        noSuch(55, "longest", x.longest(2), x.longest(-1), x.longest(MIN));
    }

    private static void pairing() {
        SlotSeries x = with("weeks 12;carrier a;carrier b;series a mon 5 in 0-6;series a mon 5 out 0-4;series a mon 7 out 6-11;series a mon 4 out 0-11;series a mon 8 out 7-11;"
                + "series b mon 5 out 0-11;series a tue 5 out 0-11;series a mon 5 in 0-4;series a mon 23 out 0-11;");
        due(58, "pairs(0, 0, 0)", x.pairs(0, 0, 0), 2);
        due(58, "pairs(0, 0, 1)", x.pairs(0, 0, 1), 2);
        due(58, "pairs(0, 0, 2)", x.pairs(0, 0, 2), 3);
        due(58, "pairs(0, 0, 17)", x.pairs(0, 0, 17), 3);
        due(58, "pairs(0, 0, 18)", x.pairs(0, 0, 18), 5);
        due(58, "pairs(0, 0, 23)", x.pairs(0, 0, 23), 5);
        due(58, "pairs(0, 1, 23)", x.pairs(0, 1, 23), 0);
        due(58, "pairs(1, 0, 23)", x.pairs(1, 0, 23), 0);
        x.back(0, 6);
        due(58, "pairs without GIVEN ones", x.pairs(0, 0, 2), 2);
        x.undo();
        x.back(2, 6);
        due(58, "pairs without the other's GIVEN ones", x.pairs(0, 0, 2), 2);
        noSuch(58, "pairs", x.pairs(2, 0, 0), x.pairs(-1, 0, 0), x.pairs(0, 7, 0), x.pairs(0, -1, 0), x.pairs(0, 0, 24), x.pairs(0, 0, -1), x.pairs(MAX, MIN, MAX));
    }

    private static final String TOLD_LATER = " weeks  12 ;limit 23 4 in 3; limit 0 0 in 0;limit 5 4 in 4;carrier abcdef;carrier b;ask b mon 0 out 0-11 by 9;series b sun 23 out 7-11 new;\nask b tue 10 in 0-4 by 0;series abcdef wed 1 in 0-10;";

    private static void someActs(SlotSeries x) {
        x.back(1, 9);
        x.retime(0, 3);
        x.hand(1, 1);
        x.limit(5, 9, 0);
    }

    /** Octets are many calls, and an object has 512: what is told later is told by objects of their own. */
    private static void telling() {
        SlotSeries x = new SlotSeries();
        due(60, "tell() without a TEXT", x.tell(), -2);
        due(61, "octet ahead of any", x.octet(0), -1);
        text(x, TOLD_LATER);
        String want = "weeks 12;limit 0 0 in 0;limit 23 4 in 3;carrier abcdef;carrier b;series b sun 23 out 7-11 new;series abcdef wed 1 in 0-10;ask b mon 0 out 0-11 by 9;ask b tue 10 in 0-4;";
        told(60, x, want);
        due(61, "octet(0)", x.octet(0), 'w');
        due(61, "the last octet", x.octet(want.length() - 1), ';');
        due(61, "one behind it", x.octet(want.length()), -1);
        due(61, "octet(-1)", x.octet(-1), -1);
        due(61, "octet(far)", x.octet(MAX), -1);
        due(61, "octet(far)", x.octet(MIN), -1);
        someActs(x);
        due(61, "OUT stays, whatever came", out(x).equals(want) ? 1 : 0, 1);
        toldBehindActs();
        toldGivenBack();
        toldAfterEnds();
        toldTheLongest();
    }

    private static void toldBehindActs() {
        SlotSeries x = with(TOLD_LATER);
        x.tell();
        someActs(x);
        x.tick();
        x.drop(0);
        x.pool();
        String want = "weeks 12;limit 0 0 in 0;limit 5 9 in 0;limit 23 4 in 3;carrier abcdef;carrier b;series b sun 3 out 7-11 new;series b wed 1 in 0-10;series b tue 10 in 1-4 new;";
        told(60, x, want);
        text(x, "weeks 5;");
        due(61, "OUT stays behind text()", out(x).equals(want) ? 1 : 0, 1);
        told(60, x, "weeks 5;");
        due(61, "the shorter OUT", x.octet(8), -1);
    }

    /** The weeks that were given back stand in it, behind the season's end too. */
    private static void toldGivenBack() {
        String want = "weeks 30;carrier a;series a mon 0 in 25-29;series a mon 0 in 0-29;ask a mon 0 in 0-29 by 1;";
        SlotSeries x = with(want);
        told(60, x, want);
        x.back(1, 20);
        told(60, x, want);
        ticks(x, 30);
        x.ends();
        due(49, "WEEKS of BASIS", x.series(1, 5), (1 << 20) - 1);
        told(60, x, "weeks 30;carrier a;series a mon 0 in 25-29;series a mon 0 in 0-29;");
    }

    /** The longest text of all takes more than a TAPE, so part of it comes by acts. */
    private static void toldTheLongest() {
        StringBuilder b = new StringBuilder("weeks 30;");
        for (int i = 0; i < 8; i++) b.append("carrier abcde" + (char) ('a' + i) + ";");
        SlotSeries x = with(b.toString());
        for (int h = 0; h < 24; h++) x.limit(h, 9, 9);
        for (int i = 0; i < 24; i++) x.ask(i % 8, 1000 * (i % 7) + 231, 10, 29, 9);
        due(42, "24 granted", x.pool(), 24);
        for (int i = 0; i < 24; i++) x.ask(i % 8, 1000 * (i % 7) + 231, 10, 29, 9);
        int length = 9 + 8 * 15 + 10 * 15 + 14 * 16 + 24 * 35 + 24 * 33;
        due(60, "the longest text", x.tell(), length);
        due(61, "its last byte", x.octet(length - 1), ';');
        due(61, "one behind it", x.octet(length), -1);
    }

    /** At NOW 2: weeks of each sort, two that were granted, one of which gave some back. */
    private static SlotSeries midSeason() {
        SlotSeries x = with("weeks 10;carrier a;carrier b;series a mon 1 in 5-9;series a mon 2 in 0-4;series b tue 3 out 0-9 new;ask b wed 4 in 0-9;ask a wed 4 out 1-9;");
        ticks(x, 2);
        x.undo();
        // Of the first series only its last week is left: those ahead of it are GIVEN.
        x.excuse(0, 9);
        due(40, "gives", x.gives(0, 0), 4);
        due(39, "back", x.back(2, 6), 4);
        ticks(x, 1);
        // The weeks that are gone by are none that a granted one comes with.
        due(42, "pool()", x.pool(), 2);
        due(39, "back of a granted one", x.back(3, 8), 2);
        x.miss(1, 3);
        x.miss(1, 4);
        return x;
    }

    private static void toldAfterEnds() {
        String want = "weeks 10;carrier a;carrier b;series a mon 1 in 5-9;series a mon 2 in 0-4;series b tue 3 out 0-9 new;series b wed 4 in 2-9 new;series a wed 4 out 2-9 new;";
        String kept = "weeks 10;carrier a;carrier b;series a mon 1 in 5-9;series b tue 3 out 0-9;series b wed 4 in 2-9;series a wed 4 out 2-9;";
        SlotSeries x = midSeason();
        told(60, x, want);
        ticks(x, 8);
        due(49, "ends()", x.ends(), 4);
        due(49, "WEEKS of BASIS", x.series(0, 5), 512);
        due(49, "WEEKS of BASIS", x.series(1, 5), 63);
        due(49, "WEEKS of BASIS", x.series(2, 5), 252);
        told(60, x, kept);
        due(44, "swap", x.swap(0, 1), 1);
        told(60, x, "weeks 10;carrier a;carrier b;series a tue 3 out 5-9;series b mon 1 in 0-9;series b wed 4 in 2-9;series a wed 4 out 2-9;");
        x = midSeason();
        ticks(x, 8);
        x.ends();
        x.swap(0, 1);
        x.undo();
        x.undo();
        told(60, x, want);
        x.ends();
        due(39, "back in the next season", x.back(3, 5), 5);
        ticks(x, 10);
        due(49, "ends() again", x.ends(), 4);
        due(49, "WEEKS of BASIS", x.series(3, 5), 28);
        told(60, x, kept);
        // Another TEXT brings its own.
        text(x, "weeks 6;carrier a;series a mon 1 in 1-5;");
        told(60, x, "weeks 6;carrier a;series a mon 1 in 1-5;");
    }

    private static void manyCalls() {
        // What the dearest calls cost together; nothing is due but that it ends.
        StringBuilder b = new StringBuilder("weeks 30;");
        for (int i = 0; i < 8; i++) b.append("carrier a" + (char) ('a' + i) + ";");
        SlotSeries x = with(b.toString());
        for (int h = 0; h < 24; h++) x.limit(h, 1, 0);
        for (int i = 0; i < 24; i++) x.ask(i % 8, 120, 0, 29, 9);
        for (int i = 0; i < 400; i++) due(32, "helps(1)", x.helps(1), 1);
    }
}
