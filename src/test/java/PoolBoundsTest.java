/** The boundary cases of ASKS and the POOL (terms III) and of the calls about them (promises 26 to 32, 42, 51 to 53). */
public final class PoolBoundsTest {
    public static void main(String[] args) {
        order();
        turns();
        entrants();
        nearest();
        gone();
        many();
        becomes();
        fitting();
        fits();
        where();
        blocked();
        first();
        helps();
        clash();
        Story.finish("PoolBoundsTest");
    }

    private static void story(String sentence, String run) { Story.story(sentence, run); }

    // ---- terms III

    private static void order() {
        story("III: the first one of an ENTRANT, then the first one of another CARRIER", """
            text weeks 9;carrier a;carrier b;series a mon 1 in 0-8;series a mon 2 in 0-8;ask a mon 3 in 0-8;ask b mon 3 in 0-4;
            first() = 1
            turn(1) = 0
            turn(0) = 1
            """);
        story("III: first: that of more WEEKS, of like ones that told ahead", """
            text weeks 9;carrier a;ask a mon 3 in 0-4;ask a mon 3 in 0-5;ask a mon 3 in 4-8;ask a mon 3 in 3-8;
            first() = 1
            turn(1) = 0
            turn(3) = 1
            turn(0) = 2
            turn(2) = 3
            """);
        story("III: first: the least and the most WEEKS", """
            text weeks 30;carrier a;ask a mon 3 in 25-29;ask a mon 3 in 0-28;ask a mon 3 in 1-29;ask a mon 3 in 0-29;ask a mon 3 in 0-4;
            first() = 3
            turn(3) = 0
            turn(1) = 1
            turn(2) = 2
            turn(0) = 3
            turn(4) = 4
            """);
        story("III: WEEKS as asked, also those gone by", """
            text weeks 12;carrier a;ask a mon 5 in 5-11;ask a mon 5 in 0-7;
            7 x tick()
            first() = 1
            tick() = 8
            first() = 1
            turn(1) = 0
            turn(0) = 1
            granted(1) = -1
            granted(0) = 5
            """);
        story("III: of 24 that wait each is looked at once", manyAsks(24) + """
            turn(0) = 0
            turn(1) = 1
            turn(22) = 22
            turn(23) = 23
            turn(24) = -2
            """);
    }

    private static String manyAsks(int n) {
        StringBuilder b = new StringBuilder("text weeks 5;carrier a;");
        for (int i = 0; i < n; i++) b.append("ask a mon " + i + " in 0-4;");
        return b + "\n";
    }

    private static void turns() {
        story("III: if there is none of the one sort left, one of the other: no ENTRANT", """
            text weeks 9;carrier a;series a mon 1 in 0-8;series a mon 2 in 0-8;ask a mon 3 in 0-4;ask a mon 3 in 0-6;ask a mon 3 in 0-5;
            first() = 1
            turn(1) = 0
            turn(2) = 1
            turn(0) = 2
            """);
        story("III: the turn goes on with each that is looked at, of whichever sort", """
            text weeks 9;carrier c;carrier d;ask c mon 3 in 0-8;ask c mon 4 in 0-8;ask c mon 5 in 0-8;ask d mon 6 in 0-4;
            turn(0) = 0
            turn(1) = 1
            turn(3) = 2
            turn(2) = 3
            """);
        story("III: what is looked at and not GRANTED takes a turn, and is no SERIES", """
            text weeks 9;limit 3 0 in 0;carrier c;carrier d;ask c mon 3 in 0-8;ask c mon 3 in 0-7;ask c mon 3 in 0-6;ask d mon 6 in 0-4;
            turn(0) = 0
            turn(1) = 1
            turn(2) = 2
            turn(3) = 3
            would() = 1
            granted(2) = -1
            granted(3) = 6
            """);
        story("III: in turn, an ENTRANT's that is not GRANTED too", """
            text weeks 9;limit 3 0 in 0;carrier a;carrier b;series a mon 1 in 0-8;series a mon 2 in 0-8;ask b mon 3 in 0-8;ask b mon 3 in 0-7;ask a mon 4 in 0-4;ask a mon 5 in 0-4;
            turn(0) = 0
            turn(2) = 1
            turn(1) = 2
            turn(3) = 3
            would() = 2
            """);
    }

    private static void entrants() {
        story("III: who is an ENTRANT: as it is when an ASK is chosen", """
            text weeks 9;carrier a;carrier b;series b mon 1 in 0-8;ask b mon 3 in 0-8;ask b mon 4 in 0-7;ask b mon 5 in 0-6;ask a mon 6 in 0-4;
            turn(0) = 0
            turn(1) = 1
            turn(3) = 2
            turn(2) = 3
            """);
        story("III: an ENTRANT on its DAY, by SERIES of that DAY", """
            text weeks 9;carrier a;carrier b;series a tue 1 in 0-8;series a tue 2 in 0-8;ask b mon 3 in 0-7;ask a tue 3 in 0-8;ask a mon 3 in 0-8;
            first() = 2
            turn(1) = 1
            turn(0) = 2
            """);
        story("III: fewer than 2: with one it is, with two it is not", """
            text weeks 9;carrier a;carrier b;series a mon 1 in 0-8;ask b mon 3 in 0-4;ask a mon 3 in 0-8;
            first() = 1
            text weeks 9;carrier a;carrier b;series a mon 1 in 0-8;series a mon 2 in 0-8;ask b mon 3 in 0-4;ask a mon 3 in 0-8;
            first() = 0
            """);
        story("III: a SERIES whose WEEKS are GIVEN counts", """
            text weeks 9;carrier a;carrier b;series a mon 1 in 4-8;series a mon 2 in 4-8;ask b mon 3 in 0-4;ask a mon 3 in 0-8;
            gives(0, 0) = 10
            first() = 0
            """);
    }

    private static void nearest() {
        story("III: GRANTED at its HOUR, if it FITS, else at the nearest (by at most)", """
            text weeks 5;limit 9 0 in 0;limit 10 0 in 0;limit 11 0 in 0;carrier a;ask a mon 10 in 0-4;ask a mon 10 in 0-4 by 1;ask a mon 10 in 0-4 by 2;ask a mon 11 in 0-4 by 1;ask a mon 9 in 0-4 by 1;ask a mon 12 in 0-4 by 9;
            where(0) = -1
            where(1) = -1
            where(2) = 8
            where(3) = 12
            where(4) = 8
            where(5) = 12
            """);
        story("III: of two as near the earlier one, else the later", """
            text weeks 5;limit 8 1 in 1;limit 10 0 in 0;limit 9 1 in 1;limit 11 1 in 1;carrier a;ask a mon 10 in 0-4 by 2;ask a mon 10 in 0-4 by 2;ask a mon 10 in 0-4 by 2;ask a mon 10 in 0-4 by 1;ask a mon 10 out 0-4 by 2;
            granted(0) = 9
            granted(1) = 11
            granted(2) = 8
            granted(3) = -1
            granted(4) = 12
            would() = 4
            """);
        StringBuilder low = new StringBuilder("text weeks 5;");
        for (int h = 0; h < 9; h++) low.append("limit " + h + " 0 in 0;");
        story("III: none below 0, by 9 at most", low + """
            carrier a;ask a mon 0 in 0-4 by 8;ask a mon 0 in 0-4 by 9;ask a mon 1 in 0-4 by 7;ask a mon 1 in 0-4 by 8;
            where(0) = -1
            where(1) = 9
            where(2) = -1
            where(3) = 9
            """);
        StringBuilder high = new StringBuilder("text weeks 5;");
        for (int h = 15; h < 24; h++) high.append("limit " + h + " 0 in 0;");
        story("III: none above 23, by 9 at most", high + """
            carrier a;ask a mon 23 in 0-4 by 8;ask a mon 23 in 0-4 by 9;ask a mon 22 in 0-4 by 7;ask a mon 22 in 0-4 by 8;
            where(0) = -1
            where(1) = 14
            where(2) = -1
            where(3) = 14
            """);
        story("III: the first and the last HOUR", """
            text weeks 5;limit 1 0 in 0;limit 22 0 in 0;carrier a;ask a mon 1 in 0-4 by 1;ask a mon 22 in 0-4 by 1;ask a mon 0 in 0-4;ask a mon 23 in 0-4 by 9;
            where(0) = 0
            where(1) = 21
            where(2) = 0
            where(3) = 23
            limit(21, 0, 0) = 44
            where(1) = 23
            """);
        story("III: at which it FITS: a later one may be full", """
            text weeks 5;limit 9 0 in 0;limit 10 0 in 0;limit 11 1 in 1;carrier a;series a mon 11 in 0-4;ask a mon 10 in 0-4 by 1;ask a mon 10 in 0-4 by 2;
            where(0) = -1
            where(1) = 8
            text weeks 5;limit 11 0 in 0;limit 10 0 in 0;limit 9 1 in 1;carrier a;series a mon 9 in 0-4;ask a mon 10 in 0-4 by 1;ask a mon 10 in 0-4 by 2;
            where(0) = -1
            where(1) = 8
            """);
        story("III: an HOUR that takes no more coming in takes one going out", """
            text weeks 5;limit 5 1 in 0;carrier a;ask a mon 5 in 0-4 by 1;ask a mon 5 out 0-4 by 1;
            where(0) = 4
            where(1) = 5
            """);
    }

    private static void gone() {
        story("III: WEEKS ahead of NOW are left out; if then none is left it is not GRANTED", """
            text weeks 9;carrier a;ask a mon 1 in 0-4;ask a mon 2 in 0-5;
            4 x tick()
            would() = 2
            tick() = 5
            fits(0) = -1
            where(0) = -1
            granted(0) = -1
            granted(1) = 2
            would() = 1
            pool() = 1
            series(0, 2) = 2
            series(0, 5) = 32
            weeks(0, 0) = 32
            count(3) = 1
            asked(0, 2) = 1
            pool() = 0 !
            told weeks 9;carrier a;series a mon 2 in 5-5 new;ask a mon 1 in 0-4;
            """);
        story("III: one WEEK is left", """
            text weeks 9;carrier a;ask a mon 1 in 0-4;
            4 x tick()
            pool() = 1
            series(0, 5) = 16
            week(0, 3) = -1
            week(0, 4) = 0
            """);
        story("III: WEEKS gone by are in nobody's way", """
            text weeks 9;limit 1 1 in 1;carrier a;series a mon 1 in 0-4;ask a mon 1 in 4-8;
            where(0) = -1
            4 x tick()
            where(0) = -1
            fits(0) = 0
            tick() = 5
            where(0) = 1
            fits(0) = 1
            pool() = 1
            series(1, 5) = 480
            """);
        story("III: the season being over", """
            text weeks 5;carrier a;ask a mon 1 in 0-4;
            5 x tick()
            first() = 0
            turn(0) = 0
            would() = 0
            where(0) = -1
            granted(0) = -1
            fits(0) = -1
            blocked(0) = 0
            helps(0) = 0
            helps(1) = 0
            pool() = 0 !
            """);
    }

    private static String manySeries(int n, String rest) {
        StringBuilder b = new StringBuilder("text weeks 5;carrier a;");
        for (int i = 0; i < n; i++) b.append("series a mon " + i + " in 0-4;");
        return b + rest + "\n";
    }

    private static void many() {
        story("III: at 24 SERIES none is", manySeries(24, "ask a tue 1 in 0-4;") + """
            fits(0) = 1
            blocked(0) = 0
            where(0) = -1
            granted(0) = -1
            turn(0) = 0
            first() = 0
            would() = 0
            helps(0) = 0
            helps(1) = 0
            pool() = 0 !
            """);
        story("III: at 23 SERIES one is", manySeries(23, "ask a tue 1 in 0-4;ask a tue 2 in 0-4;") + """
            where(0) = 1
            where(1) = 2
            granted(0) = 1
            granted(1) = -1
            would() = 1
            helps(1) = 1
            pool() = 1
            count(2) = 24
            count(3) = 1
            asked(0, 2) = 2
            series(23, 2) = 1
            series(23, 4) = 1
            pool() = 0 !
            undo() = 0
            count(2) = 23
            count(3) = 2
            """);
        story("28: NONE at 24 SERIES, not at 23", manySeries(23, "ask a tue 1 in 0-4;ask a tue 1 in 0-4;") + "where(1) = 1\npool() = 1\nwhere(0) = -1\nundo() = 0\nwhere(0) = 1\n");
        story("III: 24 ASKS become 24 SERIES", manyAsks(24) + """
            would() = 24
            pool() = 24
            count(2) = 24
            count(3) = 0
            series(0, 2) = 0
            series(23, 2) = 23
            first() = -1
            pool() = 0 !
            ask(0, 1000, 0, 4, 0) = 1
            where(0) = -1
            """);
    }

    private static void becomes() {
        story("III: it becomes a SERIES (the last one, new) and waits no more", """
            text weeks 9;limit 4 0 in 0;carrier a;carrier b;series a mon 1 in 0-8;ask a sun 4 in 0-8;ask b sun 23 out 4-8 by 9;ask a mon 4 in 0-6;ask b mon 4 out 1-8 by 1;
            pool() = 2
            count(2) = 3
            series(1, 0) = 1
            series(1, 1) = 0
            series(1, 2) = 3
            series(1, 3) = 1
            series(1, 4) = 1
            series(1, 5) = 510
            series(2, 0) = 1
            series(2, 1) = 6
            series(2, 2) = 23
            series(2, 4) = 1
            count(3) = 2
            asked(0, 1) = 6
            asked(1, 1) = 0
            count(6) = 1
            undo() = 0
            count(3) = 4
            asked(1, 6) = 9
            """);
        story("31, 51, 52: by limits as they are, of the first HOUR too", """
            text weeks 9;limit 0 0 in 0;carrier c;carrier d;carrier e;series c mon 1 in 0-8;series e mon 1 in 0-8;series e mon 2 in 0-8;ask c mon 0 in 0-8;ask c mon 5 in 0-7;ask d mon 6 in 0-4;ask e mon 7 in 0-4;
            turn(0) = 0
            turn(3) = 1
            turn(1) = 2
            turn(2) = 3
            granted(0) = -1
            would() = 3
            where(0) = -1
            pool() = 3
            """);
        story("42: (0: no act), of none that wait", """
            text weeks 5;carrier a;
            would() = 0
            pool() = 0 !
            count(6) = 0
            ask(0, 0, 0, 4, 0) = 1
            pool() = 1
            count(6) = 2
            pool() = 0 !
            count(6) = 2
            """);
        story("31, 51, 52: what POOL would do, it does not", """
            text weeks 5;carrier a;ask a mon 1 in 0-4;ask a mon 1 in 0-4;
            would() = 2
            helps(1) = 2
            turn(1) = 1
            granted(1) = 1
            count(2) = 0
            count(3) = 2
            count(6) = 0
            would() = 2
            """);
    }

    // ---- promises 26 to 32, 53

    private static void fitting() {
        story("26: by WEEKS from NOW on alone", """
            text weeks 9;limit 0 1 in 1;limit 23 2 in 1;carrier a;series a mon 0 out 2-6;series a mon 23 in 2-6;
            fitting(0, 0, 0, 1) = 16777215
            fitting(0, 0, 1, 2) = 8388606
            fitting(0, 1, 1, 2) = 16777214
            fitting(0, 0, 2, 2) = 8388606
            fitting(0, 0, 6, 6) = 8388606
            fitting(0, 0, 6, 8) = 8388606
            fitting(0, 0, 7, 8) = 16777215
            fitting(1, 0, 0, 8) = 16777215
            fitting(0, 0, 0, 8) = 8388606
            6 x tick()
            fitting(0, 0, 0, 5) = 16777215
            fitting(0, 0, 0, 6) = 8388606
            tick() = 7
            fitting(0, 0, 0, 8) = 16777215
            2 x tick()
            fitting(0, 0, 0, 8) = 16777215
            limit(5, 0, 0) = 44
            fitting(0, 0, 0, 8) = 16777215
            """);
        StringBuilder none = new StringBuilder("text weeks 5;");
        for (int h = 0; h < 24; h++) none.append("limit " + h + " 1 in 0;");
        story("26: none of the HOURS", none + "\nfitting(0, 0, 0, 0) = 0\nfitting(0, 1, 0, 4) = 16777215\nfitting(6, 0, 4, 4) = 0\ntick() = 1\nfitting(0, 0, 0, 0) = 16777215\nfitting(0, 0, 0, 1) = 0\n");
    }

    private static void fits() {
        story("27: NONE: none of its WEEKS is left", """
            text weeks 9;limit 2 0 in 0;carrier a;ask a mon 1 in 0-4;ask a mon 2 in 0-4;ask a mon 2 in 4-8 by 1;
            fits(0) = 1
            fits(1) = 0
            fits(2) = 0
            where(2) = 1
            4 x tick()
            fits(0) = 1
            fits(1) = 0
            tick() = 5
            fits(0) = -1
            fits(1) = -1
            fits(2) = 0
            3 x tick()
            fits(2) = 0
            tick() = 9
            fits(2) = -1
            fits(3) = -2
            fits(-1) = -2
            """);
    }

    private static void where() {
        story("28: if it were looked at now alone; NONE: it would not", """
            text weeks 9;limit 5 1 in 1;limit 6 0 in 0;carrier a;ask a mon 5 in 0-8;ask a mon 5 in 0-4;ask a mon 5 in 0-4 by 1;ask a mon 6 in 4-8;
            where(0) = 5
            where(1) = 5
            where(2) = 5
            where(3) = -1
            granted(0) = 5
            granted(1) = -1
            granted(2) = 4
            granted(3) = -1
            pool() = 2
            where(0) = -1
            where(1) = -1
            where(2) = -2
            where(-1) = -2
            undo() = 0
            where(1) = 5
            5 x tick()
            where(0) = 5
            where(1) = -1
            """);
    }

    private static void blocked() {
        story("29: BLOCKED: does not FIT at its HOUR, but would without that one", """
            text weeks 12;limit 5 2 in 1;carrier a;series a mon 5 in 0-5;series a mon 5 out 2-6;series a mon 6 in 0-5;ask a mon 5 in 0-4 by 9;ask a mon 5 out 0-4;ask a mon 5 in 5-9;ask a mon 5 in 6-11;ask a mon 6 in 0-4;
            blocked(0) = 1
            blocked(1) = 3
            blocked(2) = 1
            blocked(3) = 0
            blocked(4) = 0
            """);
        story("29: two in different WEEKS: neither alone", """
            text weeks 10;limit 5 1 in 1;carrier a;series a mon 5 in 0-4;series a mon 5 in 5-9;ask a mon 5 in 0-9;ask a mon 5 in 0-4;ask a mon 5 in 5-9;ask a mon 5 in 1-5;
            blocked(0) = 0
            blocked(1) = 1
            blocked(2) = 2
            blocked(3) = 0
            4 x tick()
            blocked(0) = 0
            blocked(1) = 1
            tick() = 5
            blocked(0) = 2
            blocked(1) = 0
            blocked(3) = 2
            """);
        story("29: an HOUR that takes none: by nobody", """
            text weeks 10;limit 5 0 in 0;carrier a;ask a mon 5 in 0-4;
            fits(0) = 0
            blocked(0) = 0
            """);
        story("29: (0, if none of its WEEKS is left)", """
            text weeks 10;limit 5 1 in 1;carrier a;series a mon 5 in 0-9;ask a mon 5 in 0-4;
            4 x tick()
            blocked(0) = 1
            tick() = 5
            blocked(0) = 0
            blocked(1) = -2
            blocked(-1) = -2
            """);
        StringBuilder all = new StringBuilder("text weeks 5;limit 9 1 in 1;carrier a;");
        for (int i = 0; i < 23; i++) all.append("series a mon " + i + " in 0-4;");
        story("29: the last of 24 SERIES", all + "series a tue 9 in 0-4;ask a tue 9 in 0-4;\nblocked(0) = 8388608\n");
    }

    private static void first() {
        story("30: NONE: none waits", """
            text weeks 5;carrier a;
            first() = -1
            would() = 0
            ask(0, 0, 0, 4, 0) = 1
            first() = 0
            drop(0) = 0
            first() = -1
            """);
    }

    private static void helps() {
        story("32: by a limit (all and in) being one more", """
            text weeks 6;limit 7 2 in 0;limit 8 1 in 1;carrier a;series a mon 8 out 0-5;ask a mon 7 in 0-5;ask a tue 7 in 0-5;ask a mon 8 in 0-5;
            would() = 0
            helps(0) = 7
            helps(1) = 2
            limitOf(7, 0) = 2
            limitOf(7, 1) = 0
            drop(0) = 2
            helps(0) = 7
            helps(1) = 1
            drop(0) = 1
            helps(0) = 8
            helps(1) = 1
            """);
        story("32: of like ones the least HOUR", """
            text weeks 6;limit 5 0 in 0;limit 22 0 in 0;carrier a;ask a mon 22 in 0-5;ask a mon 5 in 0-5;ask a mon 9 in 0-5;
            helps(0) = 5
            helps(1) = 2
            drop(1) = 2
            helps(0) = 22
            helps(1) = 2
            drop(0) = 1
            helps(0) = 0
            helps(1) = 1
            drop(0) = 0
            helps(0) = 0
            helps(1) = 0
            helps(2) = -2
            helps(-1) = -2
            """);
        story("32: the first HOUR and the last", """
            text weeks 6;limit 0 0 in 0;limit 23 0 in 0;carrier a;ask a mon 23 in 0-5;
            helps(0) = 23
            helps(1) = 1
            ask(0, 0, 0, 4, 0) = 2
            helps(0) = 0
            helps(1) = 1
            """);
        story("32: one more than 9", "text weeks 6;limit 9 9 in 9;carrier a;" + "ask a mon 9 in 0-5;".repeat(11) + "\nwould() = 9\nhelps(0) = 9\nhelps(1) = 10\n");
        story("32: one place more where ASKS are moved to", """
            text weeks 6;limit 4 0 in 0;limit 5 0 in 0;limit 6 0 in 0;carrier a;ask a mon 5 in 0-5 by 1;
            would() = 0
            helps(0) = 4
            helps(1) = 1
            """);
    }

    private static void clash() {
        story("53: WEEKS (as asked) in common, if DAY and HOUR are one", """
            text weeks 12;carrier a;carrier b;ask a mon 5 in 0-5;ask b mon 5 out 5-11;ask a mon 5 in 6-11;ask a tue 5 in 0-5;ask a mon 6 in 0-5;
            clash(0, 0) = 6
            clash(0, 1) = 1
            clash(1, 0) = 1
            clash(0, 2) = 0
            clash(1, 2) = 6
            clash(0, 3) = 0
            clash(0, 4) = 0
            clash(0, 5) = -2
            clash(5, 0) = -2
            clash(-1, 0) = -2
            clash(0, -1) = -2
            12 x tick()
            clash(0, 0) = 6
            clash(0, 1) = 1
            """);
    }
}
