/** The boundary cases of a season (terms II) and of the calls that ask how it stands (promises 9 to 25, 33 to 35, 54, 55, 58, 59). */
public final class SeasonBoundsTest {
    public static void main(String[] args) {
        now();
        load();
        fits();
        kept();
        safeAndLost();
        seriesAndWeeks();
        asked();
        limitOf();
        at();
        room();
        useAndSpare();
        ofAndSum();
        best();
        peak();
        full();
        keptBits();
        common();
        idle();
        rate();
        longest();
        pairs();
        most();
        Story.finish("SeasonBoundsTest");
    }

    private static void story(String sentence, String run) { Story.story(sentence, run); }

    // ---- terms II

    private static void now() {
        story("II: each WEEK of it is OPEN at first", """
            text weeks 9;carrier a;series a mon 1 in 2-7;
            weeks(0, 0) = 252
            weeks(0, 1) = 0
            weeks(0, 2) = 0
            weeks(0, 3) = 0
            weeks(0, 4) = 0
            """);
        story("II: NOW is 0 at first; N: the season is over", """
            text weeks 5;carrier a;series a mon 1 in 0-4;
            count(4) = 0
            ends() = -6 !
            tick() = 1
            tick() = 2
            tick() = 3
            tick() = 4
            ends() = -6 !
            peak(0) = 1
            tick() = 5
            tick() = -1 !
            peak(0) = -1
            count(4) = 5
            ends() = 1
            count(4) = 0
            peak(0) = 1
            ends() = -6 !
            """);
        story("II: N, of 30 weeks", """
            text weeks 30;carrier a;series a mon 1 in 0-29;
            29 x tick()
            count(4) = 29
            weeks(0, 0) = 536870912
            ends() = -6 !
            tick() = 30
            tick() = -1 !
            weeks(0, 0) = 0
            weeks(0, 1) = 1073741823
            ends() = 1
            weeks(0, 0) = 1073741823
            """);
    }

    private static void load() {
        story("II: LOAD: SERIES that have this WEEK (GIVEN ones not)", """
            text weeks 6;carrier a;series a mon 1 in 0-5;
            miss(0, 1) = 0
            excuse(0, 2) = 1
            back(0, 4) = 2
            tick() = 1
            load(0, 0, 1, 0) = 1
            load(1, 0, 1, 0) = 1
            load(2, 0, 1, 0) = 1
            load(3, 0, 1, 0) = 1
            load(4, 0, 1, 0) = 0
            load(5, 0, 1, 0) = 0
            load(4, 0, 1, 1) = 0
            load(4, 0, 1, 2) = 0
            """);
        story("II, 14: LOAD at the first and last WEEK of a series, of none and of the most", """
            text weeks 7;limit 23 9 in 5;carrier a;series a sun 23 in 1-5;series a sun 23 out 1-5;series a sun 23 out 1-5;series a sun 23 in 1-5;series a sun 23 out 1-5;series a sun 23 in 1-5;series a sun 23 in 1-5;series a sun 23 in 1-5;series a sun 23 out 1-5;
            load(0, 6, 23, 0) = 0
            load(1, 6, 23, 0) = 9
            load(5, 6, 23, 0) = 9
            load(6, 6, 23, 0) = 0
            load(1, 6, 23, 1) = 5
            load(1, 6, 23, 2) = 4
            load(1, 5, 23, 0) = 0
            load(1, 6, 22, 0) = 0
            at(1, 6, 23, 8) = 8
            at(1, 6, 23, 9) = -1
            room(1, 6, 23, 0) = 0
            room(1, 6, 23, 1) = 0
            room(0, 6, 23, 0) = 5
            room(0, 6, 23, 1) = 9
            """);
    }

    private static void fits() {
        story("II: FITS: LOAD at the limit, and above it", """
            text weeks 9;limit 5 2 in 2;carrier a;series a mon 5 in 0-8;series a mon 6 in 0-8;series a mon 7 in 0-8;
            retime(1, 5) = 6
            load(0, 0, 5, 0) = 2
            retime(2, 5) = -6 !
            retime(1, 6) = 5
            retime(2, 5) = 7
            """);
        story("II: FITS: LOAD of those that come in, if it comes in", """
            text weeks 9;limit 5 3 in 1;carrier a;series a mon 5 in 0-8;series a mon 6 in 0-8;series a mon 6 out 0-8;series a mon 7 out 0-8;series a mon 7 out 0-8;
            retime(1, 5) = -6 !
            retime(2, 5) = 6
            retime(3, 5) = 7
            retime(4, 5) = -6 !
            """);
        story("II: FITS: one that goes out, where none may come in", """
            text weeks 9;limit 5 1 in 0;carrier a;series a mon 6 in 0-8;series a mon 6 out 0-8;
            retime(0, 5) = -6 !
            retime(1, 5) = 6
            """);
        story("II: FITS: in no WEEK of it from NOW on", """
            text weeks 10;limit 5 1 in 1;carrier a;series a mon 5 in 0-4;series a mon 6 in 0-9;
            retime(1, 5) = -6 !
            4 x tick()
            retime(1, 5) = -6 !
            tick() = 5
            retime(1, 5) = 6
            load(4, 0, 5, 0) = 2
            load(5, 0, 5, 0) = 1
            """);
        story("II: FITS: WEEKS side by side, and one in common", """
            text weeks 12;limit 5 1 in 1;carrier a;series a mon 5 in 0-4;series a mon 6 in 5-11;series a mon 6 in 4-11;
            retime(2, 5) = -6 !
            retime(1, 5) = 6
            """);
        story("II: FITS: GIVEN WEEKS of another are in nobody's way", """
            text weeks 10;limit 5 1 in 1;carrier a;series a mon 5 in 0-9;series a mon 6 in 5-9;
            retime(1, 5) = -6 !
            back(0, 6) = 4
            retime(1, 5) = -6 !
            back(0, 5) = 1
            retime(1, 5) = 6
            """);
        story("II: FITS: GIVEN WEEKS of its own add no LOAD", """
            text weeks 10;limit 5 1 in 1;carrier a;series a mon 5 in 5-9;series a mon 6 in 0-9;
            back(1, 6) = 4
            retime(1, 5) = -6 !
            back(1, 5) = 1
            retime(1, 5) = 6
            load(5, 0, 5, 0) = 1
            """);
    }

    private static void kept() {
        story("II: KEPT: 5 times GOOD not below 4 times BASIS", """
            text weeks 10;carrier a;series a mon 1 in 0-9;series a mon 2 in 0-9;series a mon 3 in 0-8;series a mon 4 in 0-8;series a mon 5 in 0-4;series a mon 6 in 0-4;series a mon 7 in 4-9;
            miss(0, 0) = 1
            miss(0, 1) = 0
            miss(1, 0) = 1
            miss(1, 1) = 0
            miss(1, 2) = -1
            miss(2, 0) = 0
            miss(3, 0) = 0
            miss(3, 1) = -1
            miss(4, 0) = 0
            miss(5, 0) = 0
            miss(5, 1) = -1
            back(6, 4) = 6
            10 x tick()
            kept(0) = 21
            kept(1) = 106
            use(0, 1) = 8
            use(3, 1) = 7
            ends() = 3
            series(0, 2) = 1
            series(1, 2) = 3
            series(2, 2) = 5
            """);
        story("II: KEPT of 30 WEEKS: 24, not 23", """
            text weeks 30;carrier a;series a mon 1 in 0-29;series a mon 2 in 0-29;
            6 x tick()
            undo() = 5
            spare(0) = 6
            miss(0, 29) = 5
            miss(0, 28) = 4
            miss(0, 27) = 3
            miss(0, 26) = 2
            miss(0, 25) = 1
            miss(0, 24) = 0
            miss(1, 29) = 5
            miss(1, 28) = 4
            miss(1, 27) = 3
            miss(1, 26) = 2
            miss(1, 25) = 1
            miss(1, 24) = 0
            miss(1, 23) = -1
            25 x tick()
            use(0, 1) = 24
            use(1, 1) = 23
            stands(0) = 1
            stands(1) = 2
            ends() = 1
            series(0, 2) = 1
            """);
        story("II: KEPT: BASIS above 0", """
            text weeks 9;carrier a;series a mon 1 in 4-8;series a mon 2 in 4-8;
            back(0, 4) = 5
            back(1, 5) = 4
            use(0, 0) = 0
            use(1, 0) = 1
            9 x tick()
            kept(0) = 2
            kept(1) = 1
            ends() = 1
            series(0, 2) = 2
            series(0, 5) = 16
            """);
    }

    private static void safeAndLost() {
        story("II: SAFE: it would be KEPT if all OPEN ones were MISSED", """
            text weeks 10;carrier a;series a mon 1 in 0-9;
            7 x tick()
            use(0, 1) = 7
            stands(0) = 0
            kept(0) = 0
            tick() = 8
            stands(0) = 1
            kept(0) = 1
            miss(0, 8) = 1
            miss(0, 9) = 0
            stands(0) = 1
            2 x tick()
            ends() = 1
            """);
        story("II: LOST: it would not be if all OPEN ones were FLOWN", """
            text weeks 10;carrier a;series a mon 1 in 0-9;
            miss(0, 0) = 1
            miss(0, 1) = 0
            stands(0) = 0
            kept(1) = 0
            miss(0, 2) = -1
            stands(0) = 2
            kept(1) = 1
            excuse(0, 2) = 1
            stands(0) = 0
            kept(1) = 0
            """);
        story("II: neither, of BASIS 5 and 4 with one MISSED", """
            text weeks 10;carrier a;series a mon 1 in 0-9;
            miss(0, 0) = 1
            back(0, 5) = 5
            use(0, 0) = 5
            stands(0) = 0
            spare(0) = 0
            undo() = 1
            back(0, 4) = 6
            use(0, 0) = 4
            stands(0) = 2
            spare(0) = -1
            """);
    }

    // ---- promises 9 to 25

    private static void seriesAndWeeks() {
        story("9: its WEEKS (GIVEN ones, too)", """
            text weeks 10;carrier a;carrier b;series b sun 23 out 0-9 new;series a mon 0 in 5-9;
            series(0, 0) = 1
            series(0, 1) = 6
            series(0, 2) = 23
            series(0, 3) = 1
            series(0, 4) = 1
            series(1, 0) = 0
            series(1, 1) = 0
            series(1, 2) = 0
            series(1, 3) = 0
            series(1, 4) = 0
            series(1, 5) = 992
            back(0, 4) = 6
            back(1, 4) = 5
            series(0, 5) = 1023
            series(1, 5) = 992
            weeks(0, 4) = 1008
            weeks(1, 4) = 992
            weeks(1, 0) = 0
            10 x tick()
            ends() = 1
            series(0, 0) = 1
            series(0, 4) = 0
            series(0, 5) = 15
            weeks(0, 4) = 0
            week(0, 3) = 0
            week(0, 4) = -1
            """);
        story("11: NONE: it has it not", """
            text weeks 9;carrier a;series a mon 1 in 2-6;
            week(0, 0) = -1
            week(0, 1) = -1
            week(0, 2) = 0
            week(0, 6) = 0
            week(0, 7) = -1
            week(0, 8) = -1
            week(0, 9) = -2
            week(0, -1) = -2
            miss(0, 2) = 0
            excuse(0, 3) = 1
            back(0, 6) = 1
            3 x tick()
            week(0, 1) = -1
            week(0, 2) = 2
            week(0, 3) = 3
            week(0, 4) = 0
            2 x tick()
            week(0, 4) = 1
            week(0, 6) = 4
            week(0, 7) = -1
            """);
        story("10: each WEEK is in one of the five", """
            text weeks 7;carrier a;series a mon 1 in 0-6;
            miss(0, 0) = 0
            excuse(0, 1) = 1
            back(0, 5) = 2
            tick() = 1
            tick() = 2
            tick() = 3
            weeks(0, 0) = 24
            weeks(0, 1) = 4
            weeks(0, 2) = 1
            weeks(0, 3) = 2
            weeks(0, 4) = 96
            """);
    }

    private static void asked() {
        story("12: numbered as they wait", """
            text weeks 30;carrier a;carrier b;ask a mon 0 in 0-4;ask b sun 23 out 25-29 by 9;ask a tue 3 in 0-29 by 1;
            asked(0, 4) = 0
            asked(0, 5) = 4
            asked(1, 0) = 1
            asked(1, 1) = 6
            asked(1, 2) = 23
            asked(1, 3) = 1
            asked(1, 4) = 25
            asked(1, 5) = 29
            asked(1, 6) = 9
            asked(3, 0) = -2
            drop(0) = 2
            asked(0, 2) = 23
            asked(1, 2) = 3
            asked(2, 0) = -2
            30 x tick()
            asked(1, 5) = 29
            asked(1, 4) = 0
            """);
    }

    private static void limitOf() {
        story("13: how many an HOUR takes, of these coming in", """
            text weeks 5;limit 0 9 in 0;limit 23 0 in 0;
            limitOf(0, 0) = 9
            limitOf(0, 1) = 0
            limitOf(23, 0) = 0
            limitOf(23, 1) = 0
            limitOf(1, 0) = 4
            limitOf(22, 1) = 4
            limitOf(24, 0) = -2
            limitOf(-1, 0) = -2
            limitOf(0, 2) = -2
            limitOf(0, -1) = -2
            """);
    }

    private static void at() {
        story("15: NONE: not so many; -2 (k below 0, too)", """
            text weeks 9;carrier a;series a mon 1 in 0-4;series a mon 2 in 0-8;series a mon 1 out 4-8;series a tue 1 out 0-8;series a mon 1 in 3-8;
            at(4, 0, 1, 0) = 0
            at(4, 0, 1, 1) = 2
            at(4, 0, 1, 2) = 4
            at(4, 0, 1, 3) = -1
            at(4, 0, 1, MAX) = -1
            at(4, 0, 1, -1) = -2
            at(4, 0, 1, MIN) = -2
            at(5, 0, 1, 0) = 2
            at(5, 0, 1, 1) = 4
            at(5, 0, 1, 2) = -1
            at(2, 0, 1, 0) = 0
            at(2, 0, 1, 1) = -1
            at(2, 2, 1, 0) = -1
            at(2, 2, 1, -1) = -2
            """);
        story("15: of the most SERIES", "text weeks 5;limit 7 9 in 9;carrier a;" + "series a mon 7 in 0-4;".repeat(9) + "series a mon 6 in 0-4;\n" + """
            at(0, 0, 7, 8) = 8
            at(0, 0, 7, 9) = -1
            at(0, 0, 6, 0) = 9
            at(0, 0, 6, 1) = -1
            """);
        story("14, 15: nothing is left of a series that was undone", """
            text weeks 5;carrier a;ask a mon 0 in 0-4;
            pool() = 1
            at(0, 0, 0, 0) = 0
            undo() = 0
            at(0, 0, 0, 0) = -1
            load(0, 0, 0, 0) = 0
            sum(0, 0) = 0
            of(0, -1) = 0
            idle(0) = 16777215
            """);
    }

    private static void room() {
        story("16: how many more, coming in and going out", """
            text weeks 9;limit 1 3 in 1;limit 2 0 in 0;limit 3 9 in 9;limit 4 2 in 2;carrier a;series a mon 1 out 0-4;series a mon 4 out 0-4;series a mon 1 out 0-4;
            room(0, 0, 1, 0) = 1
            room(0, 0, 1, 1) = 1
            room(5, 0, 1, 0) = 1
            room(5, 0, 1, 1) = 3
            room(0, 0, 2, 0) = 0
            room(0, 0, 2, 1) = 0
            room(0, 0, 3, 0) = 9
            room(0, 0, 3, 1) = 9
            room(0, 0, 4, 0) = 1
            room(0, 0, 4, 1) = 1
            room(8, 6, 23, 0) = 4
            """);
        story("16: coming in, beside others that come in", """
            text weeks 9;limit 1 9 in 2;limit 2 2 in 2;carrier a;series a mon 1 in 0-4;series a mon 2 in 0-4;
            room(0, 0, 1, 0) = 1
            room(0, 0, 1, 1) = 8
            room(5, 0, 1, 0) = 2
            room(5, 0, 1, 1) = 9
            room(0, 0, 2, 0) = 1
            room(0, 0, 2, 1) = 1
            """);
        story("16: none, where past WEEKS hold more than the limit", """
            text weeks 10;limit 8 1 in 1;carrier a;series a mon 8 in 0-9;series a mon 9 in 0-4;
            5 x tick()
            retime(1, 8) = 9
            load(0, 0, 8, 0) = 2
            room(0, 0, 8, 0) = 0
            room(0, 0, 8, 1) = 0
            """);
    }

    private static void useAndSpare() {
        story("17: BASIS and GOOD of none and of all", """
            text weeks 9;carrier a;series a mon 1 in 4-8;
            use(0, 0) = 5
            use(0, 1) = 0
            back(0, 4) = 5
            use(0, 0) = 0
            use(0, 1) = 0
            undo() = 0
            8 x tick()
            use(0, 1) = 4
            tick() = 9
            use(0, 0) = 5
            use(0, 1) = 5
            """);
        story("18: (BASIS 0: 2); 19: NONE: it is LOST", """
            text weeks 9;carrier a;series a mon 1 in 4-8;
            stands(0) = 0
            spare(0) = 1
            back(0, 5) = 4
            stands(0) = 0
            spare(0) = 0
            back(0, 4) = 1
            stands(0) = 2
            spare(0) = -1
            9 x tick()
            stands(0) = 2
            spare(0) = -1
            """);
        story("19: at most so many as are OPEN", """
            text weeks 10;carrier a;series a mon 1 in 0-9;
            spare(0) = 2
            7 x tick()
            spare(0) = 2
            tick() = 8
            spare(0) = 2
            tick() = 9
            spare(0) = 1
            tick() = 10
            spare(0) = 0
            stands(0) = 1
            """);
        story("19: cut where a fifth is no whole number", """
            text weeks 11;carrier a;series a mon 1 in 0-4;series a mon 1 in 0-5;series a mon 1 in 0-6;series a mon 1 in 0-7;series a mon 2 in 0-8;series a mon 2 in 0-9;series a mon 2 in 0-10;
            spare(0) = 1
            spare(1) = 1
            spare(2) = 1
            spare(3) = 1
            spare(4) = 1
            spare(5) = 2
            spare(6) = 2
            """);
    }

    private static void ofAndSum() {
        StringBuilder all = new StringBuilder("text weeks 5;carrier a;carrier b;");
        for (int i = 0; i < 24; i++) all.append("series a " + (i % 2 == 0 ? "mon " : "sun ") + i + " in 0-4;");
        story("20: SERIES as bits, all 24 and none", all + "\n" + """
            of(0, -1) = 16777215
            of(0, 0) = 5592405
            of(0, 6) = 11184810
            of(0, 1) = 0
            of(1, -1) = 0
            of(1, 0) = 0
            of(0, -2) = -2
            of(0, 7) = -2
            of(2, -1) = -2
            of(-1, -1) = -2
            hand(23, 1) = 0
            of(1, -1) = 8388608
            of(1, 6) = 8388608
            sum(0, 0) = 115
            sum(1, 0) = 5
            """);
        story("22: what 0 .. 4 as weeks(), of none and of several", """
            text weeks 9;carrier a;carrier b;carrier c;series a mon 1 in 0-8;series a sun 1 out 4-8;series b mon 1 in 0-4;
            sum(2, 0) = 0
            sum(2, 4) = 0
            sum(0, 0) = 14
            sum(0, 1) = 0
            miss(0, 0) = 0
            excuse(1, 8) = 1
            gives(0, 0) = 5
            tick() = 1
            tick() = 2
            sum(0, 0) = 6
            sum(0, 1) = 1
            sum(0, 2) = 1
            sum(0, 3) = 1
            sum(0, 4) = 5
            sum(1, 1) = 2
            sum(0, 5) = -2
            sum(0, -1) = -2
            """);
        story("21: an ENTRANT has fewer than 2 SERIES of that DAY", """
            text weeks 9;carrier a;carrier b;series a mon 1 in 0-8;series a tue 2 out 4-8;series b mon 1 in 0-4;
            entrant(0, 0) = 1
            entrant(0, 1) = 1
            entrant(0, 2) = 1
            hand(2, 0) = 1
            entrant(0, 0) = 0
            entrant(1, 0) = 1
            entrant(0, 1) = 1
            back(2, 4) = 1
            gives(0, 0) = 5
            entrant(0, 0) = 0
            undo() = 2
            undo() = 1
            undo() = 0
            entrant(0, 0) = 1
            """);
        story("21: nor is one with three, or whose WEEKS are all GIVEN", """
            text weeks 9;carrier a;series a mon 1 in 4-8;series a mon 2 in 4-8;
            entrant(0, 0) = 0
            gives(0, 0) = 10
            entrant(0, 0) = 0
            text weeks 9;carrier a;series a mon 1 in 4-8;series a mon 2 in 4-8;series a mon 3 in 4-8;
            entrant(0, 0) = 0
            """);
    }

    private static void best() {
        story("23: by GOOD by BASIS (exactly); those of BASIS 0 last", """
            text weeks 30;carrier d;carrier c;carrier n;carrier z;series d mon 1 in 3-28;series c mon 1 in 1-29;series z mon 1 in 20-29;
            20 x tick()
            best(0) = 1
            best(1) = 0
            best(2) = 3
            best(3) = 2
            best(4) = -1
            best(MAX) = -1
            best(-1) = -2
            best(MIN) = -2
            rate(0) = 65
            rate(1) = 65
            """);
        story("23: of like ones the lesser number", """
            text weeks 10;carrier a;carrier b;carrier c;carrier e;series b mon 1 in 0-9;series a mon 1 in 0-4;series e mon 1 in 5-9;
            best(0) = 0
            best(1) = 1
            best(2) = 3
            best(3) = 2
            back(2, 5) = 5
            best(2) = 2
            best(3) = 3
            excuse(0, 0) = 1
            best(0) = 1
            excuse(0, 1) = 2
            excuse(1, 0) = 1
            best(0) = 0
            best(1) = 1
            excuse(0, 2) = 3
            best(0) = 1
            """);
        story("23: of all its SERIES together", """
            text weeks 10;carrier a;carrier b;series a mon 1 in 0-4;series a mon 1 in 0-4;series b mon 1 in 0-4;
            excuse(0, 0) = 1
            excuse(0, 1) = 2
            excuse(0, 2) = 3
            excuse(2, 0) = 1
            excuse(2, 1) = 2
            best(0) = 1
            excuse(1, 0) = 1
            best(0) = 0
            """);
        story("23: of all DAYS, and of BASIS 1", """
            text weeks 9;carrier a;carrier b;carrier c;series b sun 1 in 4-8;series c tue 1 in 4-8;series c wed 1 in 0-4;
            back(0, 5) = 4
            use(0, 0) = 1
            best(0) = 1
            best(1) = 2
            best(2) = 0
            excuse(2, 0) = 1
            best(0) = 2
            best(1) = 1
            best(2) = 0
            """);
        story("23: NONE: not so many, of none and of 8", """
            text weeks 5;
            best(0) = -1
            best(-1) = -2
            text weeks 5;carrier a;carrier b;carrier c;carrier d;carrier e;carrier f;carrier g;carrier h;
            best(0) = 0
            best(7) = 7
            best(8) = -1
            """);
    }

    private static void peak() {
        story("24: the first where it is, by WEEKS, DAYS, HOURS", """
            text weeks 6;carrier a;series a sun 23 in 0-4;series a tue 0 in 1-5;series a mon 23 in 1-5;series a mon 22 in 1-5;
            peak(0) = 1
            peak(1) = 623
            tick() = 1
            peak(1) = 1022
            4 x tick()
            peak(0) = 1
            peak(1) = 5022
            tick() = 6
            peak(0) = -1
            peak(1) = -1
            peak(2) = -2
            peak(-1) = -2
            """);
        story("24: the greatest, from NOW on", """
            text weeks 7;carrier a;series a wed 3 in 0-4;series a wed 3 in 0-4;series a wed 3 in 0-6;series a sun 0 in 1-5;series a sun 0 out 1-5;
            peak(0) = 3
            peak(1) = 203
            4 x tick()
            peak(0) = 3
            peak(1) = 4203
            tick() = 5
            peak(0) = 2
            peak(1) = 5600
            tick() = 6
            peak(0) = 1
            peak(1) = 6203
            """);
        story("24: no LOAD at all, and none but GIVEN ones", """
            text weeks 6;
            peak(0) = 0
            peak(1) = 0
            tick() = 1
            peak(0) = 0
            peak(1) = 1000
            text weeks 9;carrier a;series a wed 3 in 4-8;
            peak(1) = 4203
            back(0, 4) = 5
            peak(0) = 0
            peak(1) = 0
            """);
        story("24: the last WEEK, DAY, HOUR", """
            text weeks 30;carrier a;series a sun 23 in 25-29;series a sun 23 in 25-29;series a mon 0 in 0-29;
            peak(1) = 25623
            29 x tick()
            peak(0) = 2
            peak(1) = 29623
            """);
    }

    private static void full() {
        story("25: HOURS in WEEKS from NOW on: no room for one going out", """
            text weeks 6;limit 5 2 in 1;limit 0 0 in 0;limit 6 1 in 0;limit 23 1 in 1;carrier a;series a mon 5 in 0-5;series a mon 5 out 1-5;series a mon 23 out 0-4;
            full(0) = 16
            full(1) = 6
            full(6) = 6
            tick() = 1
            full(0) = 14
            tick() = 2
            full(0) = 11
            3 x tick()
            full(0) = 2
            full(6) = 1
            tick() = 6
            full(0) = 0
            full(6) = 0
            full(7) = -2
            full(-1) = -2
            """);
        story("25: of none, and of all", """
            text weeks 5;limit 1 1 in 0;carrier a;series a mon 1 out 0-4;
            full(0) = 5
            full(1) = 0
            back(0, 4) = 1
            full(0) = 4
            limit(1, 2, 0) = 10
            full(0) = 0
            """);
        StringBuilder none = new StringBuilder("text weeks 30;");
        for (int h = 0; h < 24; h++) none.append("limit " + h + " 0 in 0;");
        story("25: of limits that are 0", none + "\nfull(0) = 720\nfull(6) = 720\n29 x tick()\nfull(3) = 24\ntick() = 30\nfull(3) = 0\n");
    }

    // ---- promises 33 to 35, 54, 55, 58, 59

    private static void keptBits() {
        StringBuilder all = new StringBuilder("text weeks 5;carrier a;");
        for (int i = 0; i < 24; i++) all.append("series a mon " + i + " in 0-4;");
        story("33: SERIES that are SAFE, LOST, as bits, none and all 24", all + "\n" + """
            kept(0) = 0
            kept(1) = 0
            3 x tick()
            kept(0) = 0
            tick() = 4
            kept(0) = 16777215
            kept(1) = 0
            undo() = 3
            undo() = 2
            undo() = 1
            undo() = 0
            miss(23, 0) = 0
            miss(23, 1) = -1
            kept(1) = 8388608
            kept(2) = -2
            kept(-1) = -2
            """);
    }

    private static void common() {
        story("34: two SERIES (they may be one), if DAY and HOUR are one", """
            text weeks 10;carrier a;carrier b;series a mon 1 in 0-4;series b mon 1 out 4-9;series a mon 1 in 5-9;series a tue 1 in 0-4;series a mon 2 in 0-4;
            common(0, 0) = 5
            common(0, 1) = 1
            common(1, 0) = 1
            common(0, 2) = 0
            common(1, 2) = 5
            common(0, 3) = 0
            common(0, 4) = 0
            common(3, 3) = 5
            common(0, 5) = -2
            common(5, 0) = -2
            common(-1, 0) = -2
            common(0, -1) = -2
            """);
        story("34: (GIVEN ones not)", """
            text weeks 10;carrier a;series a mon 1 in 0-9;series a mon 1 in 0-9;
            back(0, 4) = 6
            common(0, 1) = 4
            common(1, 0) = 4
            common(0, 0) = 4
            common(1, 1) = 10
            back(1, 5) = 5
            common(0, 1) = 4
            back(1, 4) = 1
            common(0, 1) = 4
            """);
    }

    private static void idle() {
        story("35: no LOAD in any WEEK from NOW on (all, if the season is over)", """
            text weeks 6;carrier a;series a mon 0 in 0-4;series a mon 23 in 1-5;
            idle(0) = 8388606
            idle(1) = 16777215
            4 x tick()
            idle(0) = 8388606
            tick() = 5
            idle(0) = 8388607
            tick() = 6
            idle(0) = 16777215
            idle(7) = -2
            idle(-1) = -2
            """);
        story("35: one that goes out is LOAD", """
            text weeks 9;carrier a;series a mon 5 out 4-8;
            idle(0) = 16777183
            """);
        story("35: GIVEN ones are no LOAD", """
            text weeks 9;carrier a;series a mon 5 in 4-8;
            idle(0) = 16777183
            back(0, 5) = 4
            idle(0) = 16777183
            back(0, 4) = 1
            idle(0) = 16777215
            """);
        StringBuilder all = new StringBuilder("text weeks 5;carrier a;");
        for (int i = 0; i < 24; i++) all.append("series a mon " + i + " in 0-4;");
        story("35: none of the HOURS", all + "\nidle(0) = 0\nretime(0, 23) = 0\nidle(0) = 1\n");
    }

    private static void rate() {
        story("54: in hundredths, cut", """
            text weeks 30;carrier a;series a mon 1 in 0-29;series a mon 1 in 0-5;
            rate(0) = 0
            tick() = 1
            rate(0) = 3
            rate(1) = 16
            3 x tick()
            rate(1) = 66
            25 x tick()
            rate(0) = 96
            rate(1) = 100
            tick() = 30
            rate(0) = 100
            """);
        story("54: NONE: BASIS is 0", """
            text weeks 9;carrier a;series a mon 1 in 4-8;
            back(0, 5) = 4
            rate(0) = 0
            back(0, 4) = 1
            rate(0) = -1
            undo() = 1
            excuse(0, 4) = 1
            rate(0) = 100
            rate(1) = -2
            rate(-1) = -2
            """);
    }

    private static void longest() {
        StringBuilder all = new StringBuilder("text weeks 30;carrier a;series a mon 1 in 0-29;\nlongest(0) = 0\n");
        for (int w = 0; w < 30; w++) all.append("miss(0, " + w + ") <> -6\nlongest(0) = " + (w + 1) + "\n");
        story("55: of none and of all 30", all + "excuse(0, 15) = 1\nlongest(0) = 15\nexcuse(0, 14) = 2\nlongest(0) = 14\n30 x tick()\nlongest(0) = 14\n");
        story("55: one behind the other", """
            text weeks 12;carrier a;series a mon 1 in 2-11;
            miss(0, 2) = 1
            longest(0) = 1
            miss(0, 4) = 0
            longest(0) = 1
            miss(0, 3) = -1
            longest(0) = 3
            miss(0, 11) = -1
            miss(0, 10) = -1
            longest(0) = 3
            miss(0, 9) = -1
            miss(0, 8) = -1
            longest(0) = 4
            fly(0, 10) = 2
            longest(0) = 3
            longest(1) = -2
            longest(-1) = -2
            """);
        story("55: no WEEK comes behind the last", """
            text weeks 5;carrier a;series a mon 1 in 0-4;
            miss(0, 0) = 0
            miss(0, 4) = -1
            longest(0) = 1
            miss(0, 3) = -1
            longest(0) = 2
            """);
        story("55: FLOWN, EXCUSED, GIVEN ones lie between", """
            text weeks 12;carrier a;series a mon 1 in 0-11;
            miss(0, 0) = 1
            miss(0, 2) = 0
            tick() = 1
            tick() = 2
            tick() = 3
            longest(0) = 1
            miss(0, 7) = -1
            miss(0, 9) = -1
            back(0, 7) = 3
            longest(0) = 1
            """);
    }

    private static void pairs() {
        story("58: at the same HOUR or later, by within (0 .. 23) at most", """
            text weeks 9;carrier a;series a mon 0 in 0-4;series a mon 23 out 4-8;
            pairs(0, 0, 23) = 1
            pairs(0, 0, 22) = 0
            pairs(0, 0, 24) = -2
            pairs(0, 0, -1) = -2
            pairs(0, 1, 23) = 0
            back(1, 5) = 4
            pairs(0, 0, 23) = 1
            back(1, 4) = 1
            pairs(0, 0, 23) = 0
            """);
        story("58: one in, one out, none earlier", """
            text weeks 9;carrier a;carrier b;series a mon 5 out 0-8;series a mon 6 in 0-8;series a mon 6 out 0-8;series a mon 7 out 0-8;series a mon 7 in 0-8;series b mon 6 out 0-8;
            pairs(0, 0, 0) = 2
            pairs(0, 0, 1) = 3
            pairs(0, 0, 23) = 3
            pairs(1, 0, 23) = 0
            """);
        story("58: no HOUR comes behind the last", """
            text weeks 9;carrier a;series a mon 23 in 0-8;series a mon 0 out 0-8;series a tue 0 out 0-8;series a sun 23 out 0-8;
            pairs(0, 0, 23) = 0
            pairs(0, 1, 23) = 0
            pairs(0, 6, 23) = 0
            retime(1, 23) = 0
            pairs(0, 0, 0) = 1
            """);
        story("58: whichever of them was told ahead", """
            text weeks 9;carrier a;series a mon 6 out 0-8;series a mon 6 in 0-8;
            pairs(0, 0, 0) = 1
            text weeks 9;carrier a;series a mon 6 in 0-8;series a mon 6 out 0-8;
            pairs(0, 0, 0) = 1
            """);
        story("58: that have a WEEK in common (GIVEN ones not)", """
            text weeks 10;carrier a;series a mon 5 in 0-4;series a mon 5 out 5-9;series a mon 5 out 4-8;
            pairs(0, 0, 0) = 1
            back(0, 4) = 1
            pairs(0, 0, 0) = 0
            """);
        StringBuilder all = new StringBuilder("text weeks 5;limit 1 9 in 9;limit 2 9 in 9;limit 3 9 in 9;carrier a;");
        for (int i = 0; i < 24; i++) all.append("series a mon " + (i / 8 + 1) + (i % 2 == 0 ? " in" : " out") + " 0-4;");
        story("58: the most twos", all + "\npairs(0, 0, 0) = 48\npairs(0, 0, 1) = 80\npairs(0, 0, 2) = 96\n");
    }

    private static void most() {
        story("59: by BASIS on a DAY, of like ones the lesser number", """
            text weeks 12;carrier a;carrier b;carrier c;series c mon 1 in 0-5;series b mon 1 in 0-11;series c mon 2 in 0-4;series a tue 3 in 0-11;
            most(0, 0) = 1
            most(0, 1) = 2
            most(0, 2) = 0
            most(0, 3) = -1
            most(0, MAX) = -1
            most(0, -1) = -2
            most(0, MIN) = -2
            most(7, 0) = -2
            most(-1, 0) = -2
            back(1, 11) = 1
            most(0, 0) = 1
            back(1, 10) = 1
            most(0, 0) = 2
            most(0, 1) = 1
            most(1, 0) = 0
            most(1, 1) = 1
            most(1, 2) = 2
            most(6, 0) = 0
            most(6, 2) = 2
            most(6, 3) = -1
            """);
        story("59: NONE: not so many, of none and of 8", """
            text weeks 5;
            most(0, 0) = -1
            most(0, -1) = -2
            text weeks 5;carrier a;carrier b;carrier c;carrier d;carrier e;carrier f;carrier g;carrier h;series h sun 1 in 0-4;
            most(6, 0) = 7
            most(6, 1) = 0
            most(6, 7) = 6
            most(6, 8) = -1
            """);
    }
}
