/** The boundary cases of acts (terms IV, promises 36 to 50), of what they could do (56, 57), and of what is told (60, 61). */
public final class ActBoundsTest {
    public static void main(String[] args) {
        acts();
        noActs();
        latestTen();
        undone();
        miss();
        excuse();
        fly();
        back();
        gives();
        tick();
        retime();
        swap();
        hand();
        limit();
        ask();
        drop();
        ends();
        movable();
        partners();
        tell();
        octet();
        lastCall();
        Story.finish("ActBoundsTest");
    }

    private static void story(String sentence, String run) { Story.story(sentence, run); }

    private static final String SOME = "text weeks 10;carrier a;carrier b;series a mon 5 in 0-9;series b mon 5 in 0-9;series b tue 6 out 0-9 new;ask a wed 7 in 0-4;ask b wed 7 out 0-9 by 2;\n";

    // ---- terms IV

    private static void acts() {
        String[] each = {"miss(0, 0) = 1", "excuse(0, 0) = 1", "back(0, 9) = 1", "gives(1, 0) = 6", "tick() = 1", "pool() = 2", "retime(0, 6) = 5",
            "swap(0, 1) = 1", "hand(0, 1) = 0", "limit(5, 4, 3) = 44", "limit(5, 5, 4) = 44", "ask(0, 0, 0, 4, 0) = 3", "drop(0) = 1"};
        for (String act : each)
            story("IV: an act, which can be undone: " + act, SOME + act + "\ncount(6) = 1\nundo() = 0\ncount(6) = 0\n"
                    + "told weeks 10;carrier a;carrier b;series a mon 5 in 0-9;series b mon 5 in 0-9;series b tue 6 out 0-9 new;ask a wed 7 in 0-4;ask b wed 7 out 0-9 by 2;\n"
                    + "weeks(0, 0) = 1023\nweeks(1, 0) = 1023\ncount(4) = 0\nundo() = -1 !\n" + act + "\ncount(6) = 1\n");
        story("IV: fly() is an act", SOME + "miss(0, 0) = 1\nfly(0, 0) = 2\ncount(6) = 2\nundo() = 1\nweek(0, 0) = 2\nundo() = 0\nweek(0, 0) = 0\n");
        story("IV: swap() of like ones, too", SOME + "swap(0, 1) = 1\ncount(6) = 1\nseries(0, 2) = 5\nswap(1, 0) = 1\ncount(6) = 2\nundo() = 1\nundo() = 0\nundo() = -1 !\n");
        story("IV: ends() is an act", SOME + "10 x tick()\ncount(6) = 10\nends() = 3\ncount(6) = 10\nundo() = 9\ncount(4) = 10\ncount(3) = 2\nseries(2, 4) = 1\ncount(5) = 0\n");
        story("IV: what is no act at all", SOME + "tell() = 144\ncount(6) = 0\nundo() = -1 !\ntape b\nfind() = 1\ncount(6) = 0\nmiss(0, 0) = 1\nundo() = 0\ncount(6) = 0\n");
    }

    private static void noActs() {
        story("IV: gives() by which no WEEK is GIVEN", SOME + "gives(0, 1) = 0 !\ngives(0, 6) = 0 !\ngives(0, 0) = 6\ngives(0, 0) = 0 !\ncount(6) = 1\n");
        story("39: (0: no act)", SOME + "back(0, 9) = 1\nback(0, 9) = 0 !\ncount(6) = 1\n");
        story("42: (0: no act)", SOME + "pool() = 2\npool() = 0 !\ncount(6) = 1\n");
        story("IV: limit() by which no limit is otherwise", SOME + "limit(5, 4, 4) = 44 !\nlimit(0, 4, 4) = 44 !\ncount(6) = 0\nlimit(0, 4, 3) = 44\ncount(6) = 1\nlimit(0, 4, 3) = 43 !\nlimit(0, 3, 3) = 43\nlimit(0, 3, 3) = 33 !\ncount(6) = 2\n");
        story("IV: each that is done: those that are refused are none", SOME + """
            miss(0, 10) = -2 !
            fly(0, 0) = -6 !
            back(0, 3) = -6 !
            retime(0, 5) = -6 !
            swap(0, 2) = -5 !
            swap(1, 2) = -5 !
            swap(0, 0) = -6 !
            hand(2, 0) = -5 !
            hand(0, 0) = -6 !
            limit(5, 1, 1) = -6 !
            ends() = -6 !
            count(6) = 0
            undo() = -1 !
            tick() = 1
            count(6) = 1
            """);
    }

    private static void latestTen() {
        story("IV: the latest 10 can be undone one by one", """
            text weeks 20;carrier a;series a mon 5 in 0-19;
            9 x tick()
            count(6) = 9
            tick() = 10
            count(6) = 10
            undo() = 9
            undo() = 8
            undo() = 7
            undo() = 6
            undo() = 5
            undo() = 4
            undo() = 3
            undo() = 2
            undo() = 1
            undo() = 0
            count(4) = 0
            undo() = -1 !
            undo() = -1 !
            tick() = 1
            count(6) = 1
            """);
        story("IV: an 11th act: the first can't be undone any more", """
            text weeks 20;carrier a;series a mon 5 in 0-19;
            miss(0, 19) = 3
            10 x tick()
            count(6) = 10
            10 x undo()
            count(4) = 0
            week(0, 19) = 2
            undo() = -1 !
            week(0, 19) = 2
            """);
        story("IV: 25 acts, of which 10 are undone and others done", """
            text weeks 30;carrier a;series a mon 5 in 0-29;
            25 x tick()
            count(6) = 10
            undo() = 9
            undo() = 8
            count(4) = 23
            miss(0, 29) = 5
            count(6) = 9
            tick() = 24
            count(6) = 10
            tick() = 25
            count(6) = 10
            8 x undo()
            count(6) = 2
            count(4) = 18
            weeks(0, 1) = 262143
            undo() = 1
            undo() = 0
            count(4) = 16
            undo() = -1 !
            """);
        story("IV: refused calls push none of the ten out", """
            text weeks 20;carrier a;series a mon 5 in 0-19;
            10 x tick()
            back(0, 13) = -6 !
            miss(0, 9) = -6 !
            gives(0, 1) = 0 !
            limit(3, 4, 4) = 44 !
            10 x undo()
            count(4) = 0
            """);
        story("IV: text() can't be undone, nor anything ahead of it", """
            undo() = -1 !
            text weeks 5;carrier a;
            undo() = -1 !
            tick() = 1
            ask(0, 0, 0, 4, 0) = 1
            text weeks 6;carrier b;
            count(6) = 0
            undo() = -1 !
            count(0) = 6
            tick() = 1
            undo() = 0
            undo() = -1 !
            count(0) = 6
            count(4) = 0
            """);
        story("IV: a text() that is refused takes nothing from what can be undone", """
            text weeks 5;carrier a;
            2 x tick()
            faulty 2 6 weeks 4;
            count(6) = 2
            undo() = 1
            faulty 1 0 x
            undo() = 0
            count(4) = 0
            """);
    }

    private static void undone() {
        story("50: NONE: none", """
            undo() = -1 !
            text weeks 5;
            undo() = -1 !
            tick() = 1
            undo() = 0
            undo() = -1 !
            count(4) = 0
            """);
        story("50: all that an act changed, one by one", SOME + """
            miss(0, 9) = 1
            excuse(0, 8) = 1
            fly(0, 9) = 2
            back(0, 9) = 1
            gives(1, 0) = 6
            retime(0, 6) = 5
            hand(0, 1) = 0
            limit(3, 2, 1) = 44
            drop(0) = 1
            pool() = 1
            undo() = 9
            count(2) = 3
            count(3) = 1
            undo() = 8
            count(3) = 2
            asked(0, 0) = 0
            asked(0, 5) = 4
            undo() = 7
            limitOf(3, 0) = 4
            limitOf(3, 1) = 4
            undo() = 6
            series(0, 0) = 0
            undo() = 5
            series(0, 2) = 5
            undo() = 4
            weeks(1, 4) = 0
            undo() = 3
            week(0, 9) = 0
            undo() = 2
            week(0, 9) = 2
            undo() = 1
            week(0, 8) = 0
            undo() = 0
            week(0, 9) = 0
            """);
        story("50: ends() undone, and done again", """
            text weeks 5;limit 3 2 in 2;carrier a;series a mon 3 in 0-4;series a mon 4 in 0-4 new;series a mon 5 in 0-4;ask a sun 1 in 0-4 by 3;
            miss(0, 0) = 0
            miss(0, 1) = -1
            back(1, 4) = 1
            5 x tick()
            ends() = 2
            series(0, 5) = 15
            series(0, 2) = 4
            undo() = 8
            count(2) = 3
            count(3) = 1
            count(4) = 5
            count(5) = 0
            series(0, 2) = 3
            weeks(0, 2) = 3
            weeks(1, 4) = 16
            weeks(1, 1) = 15
            series(1, 4) = 1
            asked(0, 6) = 3
            told weeks 5;limit 3 2 in 2;carrier a;series a mon 3 in 0-4;series a mon 4 in 0-4 new;series a mon 5 in 0-4;ask a sun 1 in 0-4 by 3;
            ends() = 2
            told weeks 5;limit 3 2 in 2;carrier a;series a mon 4 in 0-4;series a mon 5 in 0-4;
            """);
    }

    // ---- promises 36 to 42

    private static void miss() {
        story("36: -6: it is not OPEN, ahead of NOW", """
            text weeks 10;carrier a;series a mon 5 in 0-9;series a mon 6 in 2-6;
            miss(0, 0) = 1
            miss(0, 0) = -6 !
            miss(1, 1) = -6 !
            miss(1, 7) = -6 !
            miss(1, 2) = 0
            excuse(0, 1) = 1
            miss(0, 1) = -6 !
            back(0, 9) = 1
            miss(0, 9) = -6 !
            3 x tick()
            miss(0, 2) = -6 !
            miss(0, 3) = -1
            week(0, 3) = 2
            miss(0, 8) = -1
            miss(0, 10) = -2 !
            miss(0, -1) = -2 !
            miss(2, 3) = -2 !
            miss(-1, 3) = -2 !
            """);
        story("36: the first and the last WEEK of all", """
            text weeks 30;carrier a;series a mon 5 in 0-29;
            miss(0, 0) = 5
            miss(0, 29) = 4
            miss(0, 30) = -2 !
            weeks(0, 2) = 536870913
            29 x tick()
            miss(0, 28) = -6 !
            miss(0, 29) = -6 !
            fly(0, 29) = 2
            miss(0, 29) = 0
            tick() = 30
            miss(0, 29) = -6 !
            """);
        story("36: how many it can miss still (as spare(); NONE)", """
            text weeks 5;carrier a;series a mon 5 in 0-4;
            spare(0) = 1
            miss(0, 4) = 0
            spare(0) = 0
            miss(0, 3) = -1
            spare(0) = -1
            miss(0, 2) = -1
            """);
    }

    private static void excuse() {
        story("37: MISSED, or OPEN; -6: it is neither", """
            text weeks 10;carrier a;series a mon 5 in 0-9;series a mon 6 in 2-6;
            excuse(0, 0) = 1
            excuse(0, 0) = -6 !
            miss(0, 1) = 1
            excuse(0, 1) = 2
            week(0, 1) = 3
            excuse(1, 1) = -6 !
            excuse(1, 7) = -6 !
            excuse(1, 2) = 1
            back(0, 9) = 1
            excuse(0, 9) = -6 !
            miss(0, 2) = 0
            4 x tick()
            excuse(0, 3) = -6 !
            excuse(0, 2) = 4
            excuse(0, 4) = 5
            excuse(0, 10) = -2 !
            excuse(2, 0) = -2 !
            """);
        story("37: one MISSED and gone by, the season being over", """
            text weeks 5;carrier a;series a mon 5 in 0-4;
            miss(0, 0) = 0
            miss(0, 4) = -1
            5 x tick()
            stands(0) = 2
            excuse(0, 4) = 4
            stands(0) = 1
            excuse(0, 0) = 5
            excuse(0, 1) = -6 !
            ends() = 1
            """);
    }

    private static void fly() {
        story("38: from NOW on, MISSED or EXCUSED; -6: it is neither, ahead of NOW", """
            text weeks 10;carrier a;series a mon 5 in 0-9;series a mon 6 in 2-6;
            fly(0, 0) = -6 !
            fly(1, 1) = -6 !
            miss(0, 0) = 1
            excuse(0, 1) = 1
            miss(0, 2) = 0
            excuse(0, 3) = 2
            back(0, 9) = 1
            fly(0, 9) = -6 !
            fly(0, 0) = 2
            fly(0, 0) = -6 !
            miss(0, 0) = -1
            tick() = 1
            fly(0, 0) = -6 !
            fly(0, 1) = 3
            week(0, 1) = 0
            tick() = 2
            fly(0, 1) = -6 !
            week(0, 1) = 1
            fly(0, 2) = 2
            fly(0, 3) = 3
            fly(0, 10) = -2 !
            fly(2, 5) = -2 !
            """);
        story("38: the last WEEK, and behind it", """
            text weeks 5;carrier a;series a mon 5 in 0-4;
            miss(0, 4) = 0
            excuse(0, 3) = 1
            4 x tick()
            fly(0, 3) = -6 !
            fly(0, 4) = 2
            miss(0, 4) = 0
            tick() = 5
            fly(0, 4) = -6 !
            """);
    }

    private static void back() {
        story("39: at least 4 behind NOW; -6: w is not so far", """
            text weeks 12;carrier a;series a mon 5 in 0-11;series a mon 6 in 6-10;
            back(0, 3) = -6 !
            back(0, 0) = -6 !
            back(0, 4) = 8
            weeks(0, 4) = 4080
            weeks(0, 0) = 15
            undo() = 0
            tick() = 1
            back(0, 4) = -6 !
            back(0, 0) = -6 !
            back(0, 5) = 7
            undo() = 1
            back(1, 11) = 0 !
            back(1, 10) = 1
            back(1, 5) = 4
            weeks(1, 4) = 1984
            back(1, 5) = 0 !
            back(0, 11) = 1
            back(0, 11) = 0 !
            back(0, 12) = -2 !
            back(0, -1) = -2 !
            back(2, 6) = -2 !
            6 x tick()
            back(0, 10) = -6 !
            back(0, 11) = 0 !
            tick() = 8
            back(0, 11) = -6 !
            """);
        story("39: OPEN WEEKS alone", """
            text weeks 10;carrier a;series a mon 5 in 0-9;
            miss(0, 5) = 1
            excuse(0, 7) = 1
            back(0, 9) = 1
            back(0, 4) = 3
            weeks(0, 4) = 848
            weeks(0, 2) = 32
            weeks(0, 3) = 128
            back(0, 5) = 0 !
            fly(0, 5) = 2
            back(0, 5) = 1
            """);
        story("39: the least N", """
            text weeks 5;carrier a;series a mon 5 in 0-4;
            back(0, 4) = 1
            undo() = 0
            tick() = 1
            back(0, 4) = -6 !
            """);
        story("39: the greatest N, the season being over", """
            text weeks 30;carrier a;series a mon 5 in 0-29;
            25 x tick()
            back(0, 29) = 1
            undo() = 9
            tick() = 26
            back(0, 29) = -6 !
            4 x tick()
            back(0, 29) = -6 !
            """);
    }

    private static void gives() {
        story("40: 4 and more behind NOW, of a CARRIER, DAY", """
            text weeks 12;carrier a;carrier b;series a mon 5 in 0-11;series b mon 5 in 0-11;series a tue 5 in 0-11;series a mon 6 in 2-6;series a mon 7 in 0-4;
            gives(0, 0) = 12
            weeks(0, 4) = 4080
            weeks(1, 4) = 0
            weeks(2, 4) = 0
            weeks(3, 4) = 112
            weeks(4, 4) = 16
            count(6) = 1
            gives(0, 0) = 0 !
            undo() = 0
            weeks(3, 4) = 0
            tick() = 1
            gives(0, 0) = 9
            weeks(0, 4) = 4064
            weeks(3, 4) = 96
            weeks(4, 4) = 0
            gives(0, 6) = 0 !
            gives(1, 1) = 0 !
            gives(2, 0) = -2 !
            gives(-1, 0) = -2 !
            gives(0, 7) = -2 !
            gives(0, -1) = -2 !
            """);
        story("40: those that are GIVEN already stay so", """
            text weeks 10;carrier a;series a mon 5 in 0-9;
            back(0, 8) = 2
            gives(0, 0) = 4
            weeks(0, 4) = 1008
            undo() = 1
            weeks(0, 4) = 768
            """);
        story("40: OPEN ones alone", """
            text weeks 10;carrier a;series a mon 5 in 0-9;
            miss(0, 4) = 1
            excuse(0, 9) = 1
            gives(0, 0) = 4
            weeks(0, 4) = 480
            """);
        story("40: too near the end, and behind it", """
            text weeks 30;carrier a;series a mon 5 in 0-29;
            25 x tick()
            gives(0, 0) = 1
            undo() = 9
            tick() = 26
            gives(0, 0) = 0 !
            tick() = 27
            gives(0, 0) = 0 !
            tick() = 28
            gives(0, 0) = 0 !
            tick() = 29
            gives(0, 0) = 0 !
            tick() = 30
            gives(0, 0) = 0 !
            """);
        story("40: the least N", """
            text weeks 5;carrier a;series a mon 5 in 0-4;
            gives(0, 0) = 1
            undo() = 0
            tick() = 1
            gives(0, 0) = 0 !
            """);
    }

    private static void tick() {
        story("41: OPEN ones of it are FLOWN; NONE: the season is over", """
            text weeks 9;carrier a;series a mon 5 in 0-4;series a mon 5 in 0-8;series a mon 5 in 4-8;
            miss(0, 0) = 0
            excuse(1, 0) = 1
            back(2, 4) = 5
            tick() = 1
            week(0, 0) = 2
            week(1, 0) = 3
            week(2, 0) = -1
            week(0, 1) = 0
            tick() = 2
            week(0, 1) = 1
            week(1, 1) = 1
            6 x tick()
            count(4) = 8
            week(2, 4) = 4
            week(1, 8) = 0
            tick() = 9
            week(1, 8) = 1
            tick() = -1 !
            tick() = -1 !
            count(4) = 9
            count(6) = 10
            ends() = 2
            tick() = 1
            """);
        story("41: without a SERIES", """
            tick() = -2 !
            text weeks 5;
            tick() = 1
            tick() = 2
            tick() = 3
            tick() = 4
            tick() = 5
            tick() = -1 !
            """);
    }

    // ---- promises 43 to 49

    private static void retime() {
        story("43: -6: it has it; the first and the last HOUR", """
            text weeks 9;carrier a;series a mon 5 in 0-8 new;
            retime(0, 5) = -6 !
            retime(0, 0) = 5
            retime(0, 0) = -6 !
            retime(0, 23) = 0
            retime(0, 24) = -2 !
            retime(0, -1) = -2 !
            retime(1, 3) = -2 !
            retime(-1, 3) = -2 !
            series(0, 2) = 23
            series(0, 4) = 1
            """);
        story("43: -6: the season is over", """
            text weeks 5;carrier a;series a mon 5 in 0-4;
            4 x tick()
            retime(0, 6) = 5
            tick() = 5
            retime(0, 7) = -6 !
            retime(0, 5) = -6 !
            movable(0) = 0
            ends() = 1
            retime(0, 7) = 6
            """);
        story("43: -6: it does not FIT there (it being out)", """
            text weeks 9;limit 5 1 in 1;limit 6 1 in 0;limit 7 0 in 0;carrier a;carrier b;series a mon 5 in 0-4;series b mon 8 in 4-8;series b mon 8 out 4-8;series b tue 8 in 0-8;
            retime(1, 5) = -6 !
            retime(1, 6) = -6 !
            retime(1, 7) = -6 !
            retime(2, 5) = -6 !
            retime(2, 6) = 8
            retime(3, 5) = 8
            4 x tick()
            retime(1, 5) = -6 !
            tick() = 5
            retime(1, 5) = 8
            """);
        story("43: a SERIES none of whose WEEKS is left", """
            text weeks 9;limit 7 0 in 0;carrier a;series a mon 5 in 0-4;
            4 x tick()
            retime(0, 7) = -6 !
            tick() = 5
            retime(0, 7) = 5
            movable(0) = 16777087
            """);
    }

    private static void swap() {
        story("44: -5: one is new; -6: they are of one CARRIER", """
            text weeks 6;carrier a;carrier b;series a mon 5 in 0-5;series b tue 7 out 0-4;series b wed 9 in 0-4 new;series a thu 1 out 0-4 new;series a fri 2 out 0-5;
            swap(0, 2) = -5 !
            swap(2, 0) = -5 !
            swap(2, 3) = -5 !
            swap(3, 0) = -5 !
            swap(1, 2) = -5 !
            swap(2, 2) = -5 !
            swap(0, 4) = -6 !
            swap(0, 0) = -6 !
            swap(0, 5) = -2 !
            swap(5, 0) = -2 !
            swap(-1, 0) = -2 !
            swap(0, -1) = -2 !
            swap(0, 1) = 1
            series(0, 0) = 0
            series(0, 1) = 1
            series(0, 2) = 7
            series(0, 3) = 1
            series(0, 5) = 63
            series(1, 0) = 1
            series(1, 1) = 0
            series(1, 2) = 5
            series(1, 3) = 0
            series(1, 5) = 31
            hand(0, 1) = 0
            swap(0, 1) = -6 !
            """);
        story("44: both being out", """
            text weeks 9;limit 5 1 in 1;limit 6 1 in 1;carrier a;carrier b;series a mon 5 in 0-8;series b mon 6 in 0-8;
            swap(0, 1) = 1
            series(0, 2) = 6
            series(1, 2) = 5
            swap(1, 0) = 1
            series(0, 2) = 5
            """);
        story("44: both being out, whatever WEEKS they have", """
            text weeks 9;limit 5 1 in 1;carrier a;carrier b;series a mon 6 in 0-8;series b mon 5 in 0-4;series a tue 5 in 0-8;
            swap(0, 1) = 1
            undo() = 0
            swap(1, 2) = 1
            series(1, 1) = 1
            series(2, 1) = 0
            """);
        story("44: -6: the first one does not FIT then: WEEKS that the other had not", """
            text weeks 10;limit 5 1 in 1;carrier a;carrier b;series a mon 6 in 0-9;series b mon 5 in 0-4;series b mon 5 in 5-9;
            swap(0, 1) = -6 !
            swap(0, 2) = -6 !
            hand(2, 0) = 1
            swap(0, 1) = -6 !
            5 x tick()
            swap(0, 1) = -6 !
            5 x tick()
            swap(0, 1) = 1
            """);
        story("44: -6: the second one does not FIT then", """
            text weeks 10;limit 5 1 in 1;carrier a;carrier b;series a mon 6 in 0-9;series b mon 5 in 0-4;series b mon 5 in 5-9;
            swap(1, 0) = -6 !
            swap(2, 0) = -6 !
            back(0, 5) = 5
            swap(2, 0) = -6 !
            swap(1, 0) = 1
            series(0, 2) = 5
            """);
        story("44: at one HOUR, in and out", """
            text weeks 10;limit 5 2 in 1;carrier a;carrier b;series a mon 5 in 0-4;series b mon 5 out 0-9;series b mon 6 in 5-9;
            retime(2, 5) = 6
            swap(0, 1) = -6 !
            swap(1, 0) = -6 !
            retime(2, 6) = 5
            swap(0, 1) = 1
            series(0, 3) = 1
            series(1, 3) = 0
            """);
        story("44: WEEKS gone by are not looked at, the season being over too", """
            text weeks 10;limit 5 1 in 1;carrier a;carrier b;series a mon 6 in 0-9;series b mon 5 in 0-4;series b mon 5 in 5-9;
            10 x tick()
            swap(0, 1) = 1
            swap(0, 2) = 1
            load(4, 0, 5, 0) = 1
            load(5, 0, 5, 0) = 2
            """);
    }

    private static void hand() {
        story("45: -5: it is new; -6: it is that CARRIER's", """
            text weeks 5;carrier a;carrier b;series a mon 5 in 0-4;series a mon 6 in 0-4 new;
            hand(0, 0) = -6 !
            hand(1, 1) = -5 !
            hand(1, 0) = -5 !
            hand(0, 2) = -2 !
            hand(0, -1) = -2 !
            hand(2, 0) = -2 !
            hand(-1, 0) = -2 !
            hand(0, 1) = 0
            series(0, 0) = 1
            hand(0, 1) = -6 !
            hand(0, 0) = 1
            5 x tick()
            hand(0, 1) = 0
            hand(1, 1) = -5 !
            ends() = 2
            hand(1, 1) = 0
            """);
    }

    private static void limit() {
        story("46: -6: in some WEEK from NOW on there is more LOAD (all)", """
            text weeks 9;carrier a;series a mon 5 out 0-4;series a mon 5 out 4-8;series a sun 5 out 0-8;
            limit(5, 1, 0) = -6 !
            limit(5, 2, 0) = 44
            limit(5, 1, 1) = -6 !
            limitOf(5, 0) = 2
            limitOf(5, 1) = 0
            4 x tick()
            limit(5, 1, 0) = -6 !
            tick() = 5
            limit(5, 1, 0) = 20
            limit(5, 0, 0) = -6 !
            3 x tick()
            limit(5, 0, 0) = -6 !
            tick() = 9
            limit(5, 0, 0) = 10
            limitOf(5, 0) = 0
            """);
        story("46: -6: more LOAD (in)", """
            text weeks 9;carrier a;series a tue 5 in 0-4;series a tue 5 in 0-8;series a tue 5 out 0-8;
            limit(5, 4, 1) = -6 !
            limit(5, 4, 2) = 44
            limit(5, 2, 2) = -6 !
            limit(5, 3, 2) = 42
            limit(5, 3, 1) = -6 !
            4 x tick()
            limit(5, 3, 1) = -6 !
            tick() = 5
            limit(5, 3, 1) = 32
            limit(5, 3, 0) = -6 !
            limit(5, 2, 1) = 31
            """);
        story("46: GIVEN ones are no LOAD", """
            text weeks 9;carrier a;series a tue 5 in 4-8;
            limit(5, 0, 0) = -6 !
            back(0, 5) = 4
            limit(5, 0, 0) = -6 !
            back(0, 4) = 1
            limit(5, 0, 0) = 44
            """);
        story("46: n (0 .. 9), m (0 .. n)", """
            text weeks 9;
            limit(0, 9, 9) = 44
            limit(0, 9, 0) = 99
            limit(0, 0, 0) = 90
            limit(0, 1, 1) = 0
            limit(0, 1, 2) = -2 !
            limit(0, 1, -1) = -2 !
            limit(0, 10, 9) = -2 !
            limit(0, 10, 10) = -2 !
            limit(0, -1, -1) = -2 !
            limit(0, -1, 0) = -2 !
            limit(23, 0, 0) = 44
            limit(24, 0, 0) = -2 !
            limit(-1, 0, 0) = -2 !
            limitOf(0, 0) = 1
            limitOf(0, 1) = 1
            """);
        story("46: more LOAD than the limit has already, behind ends()", """
            text weeks 10;carrier a;series a mon 5 in 0-4;series a mon 5 in 0-4;series a mon 5 in 5-9;
            5 x tick()
            limit(5, 1, 1) = 44
            5 x tick()
            ends() = 3
            load(0, 0, 5, 0) = 2
            room(0, 0, 5, 0) = 0
            limit(5, 1, 1) = -6 !
            limit(5, 2, 1) = -6 !
            limit(5, 2, 2) = 11
            """);
    }

    private static void ask() {
        story("47: -5: there are 24", "text weeks 9;carrier a;" + "ask a mon 1 in 0-4;".repeat(23) + "\n" + """
            count(3) = 23
            ask(0, 6231, 4, 8, 9) = 24
            asked(23, 0) = 0
            asked(23, 1) = 6
            asked(23, 2) = 23
            asked(23, 3) = 1
            asked(23, 4) = 4
            asked(23, 5) = 8
            asked(23, 6) = 9
            ask(0, 0, 0, 4, 0) = -5 !
            ask(0, 0, 0, 3, 0) = -2 !
            ask(1, 0, 0, 4, 0) = -2 !
            ask(0, 2, 0, 4, 0) = -2 !
            ask(0, 0, 0, 4, 10) = -2 !
            drop(0) = 23
            ask(0, 0, 0, 4, 0) = 24
            ask(0, 0, 0, 4, 0) = -5 !
            undo() = 2
            count(3) = 23
            """);
        story("47: an ASK whose WEEKS are gone by comes as well", """
            text weeks 9;carrier a;
            9 x tick()
            ask(0, 0, 0, 8, 0) = 1
            fits(0) = -1
            pool() = 0 !
            ends() = 0
            count(3) = 0
            ask(0, 0, 0, 8, 0) = 1
            pool() = 1
            """);
    }

    private static void drop() {
        story("48: those behind it have a number less", """
            text weeks 9;carrier a;ask a mon 1 in 0-4;ask a mon 2 in 0-4;ask a mon 3 in 0-4;
            drop(3) = -2 !
            drop(-1) = -2 !
            drop(2) = 2
            asked(0, 2) = 1
            asked(1, 2) = 2
            asked(2, 2) = -2
            undo() = 0
            drop(0) = 2
            asked(0, 2) = 2
            asked(1, 2) = 3
            drop(2) = -2 !
            ask(0, 90, 0, 4, 0) = 3
            asked(2, 2) = 9
            drop(1) = 2
            asked(0, 2) = 2
            asked(1, 2) = 9
            drop(1) = 1
            drop(0) = 0
            drop(0) = -2 !
            undo() = 4
            asked(0, 2) = 2
            """);
    }

    private static void ends() {
        story("49: -6: it is not over", """
            ends() = -2 !
            text weeks 5;carrier a;series a mon 1 in 0-4;
            ends() = -6 !
            4 x tick()
            ends() = -6 !
            tick() = 5
            ends() = 1
            ends() = -6 !
            """);
        story("49: KEPT ones stay in their order, none new, WEEKS of BASIS OPEN, others gone", """
            text weeks 10;limit 3 5 in 5;carrier a;carrier b;series a mon 1 in 0-4;series a mon 2 in 0-4;series b mon 3 out 0-9 new;series b mon 4 in 0-9;series b tue 5 in 5-9;ask a mon 1 in 0-4;
            miss(0, 0) = 0
            miss(1, 0) = 0
            miss(1, 1) = -1
            excuse(2, 9) = 1
            back(2, 5) = 4
            back(4, 5) = 5
            10 x tick()
            ends() = 3
            count(2) = 3
            count(3) = 0
            count(4) = 0
            count(5) = 1
            series(0, 2) = 1
            series(1, 2) = 3
            series(2, 2) = 4
            series(1, 4) = 0
            series(0, 5) = 31
            weeks(0, 0) = 31
            series(1, 5) = 543
            weeks(1, 0) = 543
            weeks(1, 4) = 0
            weeks(2, 0) = 1023
            limitOf(3, 0) = 5
            count(1) = 2
            series(3, 0) = -2
            hand(1, 0) = 1
            """);
        story("49: of none, and season by season", """
            text weeks 5;
            5 x tick()
            ends() = 0
            5 x tick()
            ends() = 0
            count(5) = 2
            count(0) = 5
            """);
        story("49: all 24", manySeries() + "5 x tick()\nends() = 24\ncount(2) = 24\nweeks(23, 0) = 31\nundo() = 5\nweeks(23, 1) = 31\n");
        story("49: all 24 gone but the last", manySeries() + lost(23) + "5 x tick()\nends() = 1\nseries(0, 2) = 23\nseries(1, 2) = -2\nundo() = 9\nseries(23, 2) = 23\nseries(0, 2) = 0\nweeks(0, 2) = 3\n");
    }

    private static String manySeries() {
        StringBuilder b = new StringBuilder("text weeks 5;carrier a;");
        for (int i = 0; i < 24; i++) b.append("series a mon " + i + " in 0-4;");
        return b + "\n";
    }

    private static String lost(int n) {
        StringBuilder b = new StringBuilder();
        for (int i = 0; i < n; i++) b.append("miss(" + i + ", 0) = 0\nmiss(" + i + ", 1) = -1\n");
        return b.toString();
    }

    // ---- promises 56, 57

    private static void movable() {
        story("56: HOURS to which it could be retimed", """
            text weeks 10;limit 0 1 in 1;limit 23 1 in 0;limit 6 0 in 0;carrier a;series a mon 5 in 0-9;series a mon 0 out 0-4;series a mon 9 in 5-9;
            movable(0) = 8388510
            movable(1) = 16777150
            movable(2) = 8388031
            5 x tick()
            movable(0) = 8388511
            movable(1) = 16777214
            4 x tick()
            movable(0) = 8388511
            tick() = 10
            movable(0) = 0
            movable(1) = 0
            movable(3) = -2
            movable(-1) = -2
            """);
    }

    private static void partners() {
        story("57: SERIES with which it could be swapped", """
            text weeks 10;limit 5 1 in 1;carrier a;carrier b;series a mon 6 in 0-9;series b mon 5 in 0-4;series b mon 5 in 5-9;series b tue 7 out 0-9;series b wed 8 in 0-9 new;series a thu 9 in 0-4;
            partners(0) = 8
            partners(1) = 32
            partners(2) = 0
            partners(3) = 33
            partners(4) = 0
            partners(5) = 10
            10 x tick()
            partners(0) = 14
            partners(1) = 33
            partners(4) = 0
            partners(6) = -2
            partners(-1) = -2
            """);
        StringBuilder all = new StringBuilder("text weeks 5;carrier a;carrier b;");
        for (int i = 0; i < 24; i++) all.append("series " + (i == 0 ? "a" : "b") + " mon " + i + " in 0-4;");
        story("57: with the 23 others", all + "\npartners(0) = 16777214\npartners(1) = 1\npartners(23) = 1\n");
    }

    // ---- promises 60, 61

    private static void tell() {
        story("60: limits that are not 4 in 4, by HOURS", """
            text weeks 5;limit 23 4 in 3;limit 10 4 in 4;limit 9 3 in 3;limit 0 5 in 4;limit 1 0 in 0;
            told weeks 5;limit 0 5 in 4;limit 1 0 in 0;limit 9 3 in 3;limit 23 4 in 3;
            limit(9, 4, 4) = 33
            limit(10, 9, 9) = 44
            told weeks 5;limit 0 5 in 4;limit 1 0 in 0;limit 10 9 in 9;limit 23 4 in 3;
            """);
        story("60: by, if it is above 0", """
            text weeks 10;carrier a;ask a mon 0 in 0-4 by 0;ask a sun 23 out 5-9 by 1;ask a tue 9 in 0-9 by 9;ask a wed 10 out 1-5;
            told weeks 10;carrier a;ask a mon 0 in 0-4;ask a sun 23 out 5-9 by 1;ask a tue 9 in 0-9 by 9;ask a wed 10 out 1-5;
            """);
        story("60: a blank between words and numbers, none about - and ahead of ;", """
            text weeks30 ;carrier  abcdef;\\nseries abcdef thu9in9 - 29 new;series abcdef fri 10out 10 -14;ask abcdef sat 0in 0-29by 0009;carrier z;
            told weeks 30;carrier abcdef;carrier z;series abcdef thu 9 in 9-29 new;series abcdef fri 10 out 10-14;ask abcdef sat 0 in 0-29 by 9;
            """);
        story("60: the least", """
            tell() = -2 !
            octet(0) = -1
            text weeks 5;
            told weeks 5;
            """);
        story("60: from the first to the last WEEK that they came with", """
            text weeks 12;carrier a;series a mon 1 in 4-11;series a mon 2 in 0-9;ask a mon 3 in 0-9;
            tick() = 1
            gives(0, 0) = 12
            miss(1, 1) = 0
            pool() = 1
            told weeks 12;carrier a;series a mon 1 in 4-11;series a mon 2 in 0-9;series a mon 3 in 1-9 new;
            11 x tick()
            ends() = 3
            series(0, 5) = 16
            told weeks 12;carrier a;series a mon 1 in 4-11;series a mon 2 in 0-9;series a mon 3 in 1-9;
            """);
        story("60: what is TOLD can be read again", SOME + "limit(3, 9, 0) = 44\nretime(0, 23) = 5\nhand(0, 1) = 0\n"
                + "told weeks 10;limit 3 9 in 0;carrier a;carrier b;series b mon 23 in 0-9;series b mon 5 in 0-9;series b tue 6 out 0-9 new;ask a wed 7 in 0-4;ask b wed 7 out 0-9 by 2;\n"
                + "text weeks 10;limit 3 9 in 0;carrier a;carrier b;series b mon 23 in 0-9;series b mon 5 in 0-9;series b tue 6 out 0-9 new;ask a wed 7 in 0-4;ask b wed 7 out 0-9 by 2;\n"
                + "told weeks 10;limit 3 9 in 0;carrier a;carrier b;series b mon 23 in 0-9;series b mon 5 in 0-9;series b tue 6 out 0-9 new;ask a wed 7 in 0-4;ask b wed 7 out 0-9 by 2;\n");
        StringBuilder run = new StringBuilder("text weeks 30;"), want = new StringBuilder("weeks 30;");
        for (int i = 0; i < 8; i++) run.append("carrier abcde" + (char) ('a' + i) + ";");
        run.append("\n");
        for (int h = 0; h < 24; h++) run.append("limit(" + h + ", 9, 9) = 44\n");
        String asks = "";
        for (int i = 0; i < 24; i++) asks += "ask(" + i % 8 + ", " + (1000 * (i % 7) + 231) + ", 10, 29, 9) = " + (i + 1) + "\n";
        run.append(asks + "pool() = 24\n" + asks);
        String[] days = "mon tue wed thu fri sat sun".split(" ");
        for (int h = 0; h < 24; h++) want.append("limit " + h + " 9 in 9;");
        for (int i = 0; i < 8; i++) want.append("carrier abcde" + (char) ('a' + i) + ";");
        // The asks are all entrants' ones till each has its second of a day; none has more than one.
        for (int i = 0; i < 24; i++) want.append("series abcde" + (char) ('a' + i % 8) + " " + days[i % 7] + " 23 out 10-29 new;");
        for (int i = 0; i < 24; i++) want.append("ask abcde" + (char) ('a' + i % 8) + " " + days[i % 7] + " 23 out 10-29 by 9;");
        story("60: the most that there can be", run + "told " + want + "\n");
    }

    private static void lastCall() {
        story("an object is used for at most 512 calls", """
            text weeks 5;carrier a;series a mon 5 in 0-4;ask a mon 6 in 0-4;
            pool() = 1
            5 x tick()
            493 x would()
            undo() = 5
            tick() = 5
            ends() = 2
            miss(1, 0) = 0
            tell() = 62
            octet(0) = 119
            octet(61) = 59
            """);
    }

    private static void octet() {
        story("61: NONE: there is none such; empty ahead of any", """
            octet(0) = -1
            octet(-1) = -1
            octet(MAX) = -1
            octet(MIN) = -1
            text weeks 5;
            octet(0) = -1
            tell() = 8
            octet(-1) = -1
            octet(0) = 119
            octet(7) = 59
            octet(8) = -1
            octet(MAX) = -1
            octet(MIN) = -1
            """);
        story("61: what was told in it last, whatever came since", """
            text weeks 9;carrier a;
            tell() = 18
            octet(16) = 97
            octet(17) = 59
            octet(18) = -1
            tick() = 1
            limit(0, 0, 0) = 44
            octet(8) = 99
            undo() = 1
            faulty 1 0 x
            octet(16) = 97
            text weeks 30;
            octet(16) = 97
            octet(6) = 57
            tell() = 9
            octet(6) = 51
            octet(8) = 59
            octet(9) = -1
            octet(16) = -1
            """);
    }
}
