import java.util.ArrayList;
import java.util.List;

/** The boundary cases of a TEXT and its FAULTS (terms I) and of the calls that bring one (promises 1 to 8). */
public final class TextBoundsTest {
    private static final String WORDS = "weeks limit in carrier series new ask by out mon tue wed thu fri sat sun";

    public static void main(String[] args) {
        weeks();
        lines();
        eachToken();
        days();
        hours();
        names();
        limits();
        carriers();
        spans();
        manySeries();
        manyAsks();
        by();
        tokens();
        faultsOfSeveral();
        notFitting();
        newObject();
        feeding();
        ending();
        reading();
        latestFault();
        counting();
        letters();
        finding();
        Story.finish("TextBoundsTest");
    }

    private static void story(String sentence, String run) { Story.story(sentence, run); }

    // ---- terms I

    private static void weeks() {
        story("I: N 5 .. 30", """
            faulty 2 6 weeks 0;
            faulty 2 6 weeks 4;
            text weeks 5;
            count(0) = 5
            text weeks 30;
            count(0) = 30
            faulty 2 6 weeks 31;
            count(0) = 30
            faulty 2 6 weeks 100005;
            faulty 2 6 weeks 4294967301;
            faulty 2 6 weeks 99999999999999999999999999999999;
            text weeks 6;
            count(0) = 6
            """);
        story("I: WEEKS 0 .. N less 1, at the least N", """
            text weeks 5;carrier a;series a mon 0 in 0-4;
            week(0, -1) = -2
            week(0, 0) = 0
            week(0, 4) = 0
            week(0, 5) = -2
            load(4, 0, 0, 0) = 1
            load(5, 0, 0, 0) = -2
            """);
        story("I: WEEKS 0 .. N less 1, at the greatest N", """
            text weeks 30;carrier a;series a mon 0 in 0-29;
            series(0, 5) = 1073741823
            week(0, 29) = 0
            week(0, 30) = -2
            week(0, 31) = -2
            week(0, 32) = -2
            load(29, 0, 0, 0) = 1
            load(30, 0, 0, 0) = -2
            """);
    }

    private static void lines() {
        story("I: weeks N ; {LINE ;}, without a LINE", """
            tape weeks 5;
            text() = 1
            tape weeks 5;carrier a;
            text() = 2
            """);
        story("I: weeks N ; {LINE ;}, what lacks", """
            faulty 1 0 carrier a;
            faulty 1 0 ;weeks 5;
            faulty 1 0 5;
            faulty 1 5 weeks
            faulty 1 5 weeks;
            faulty 1 7 weeks 5
            faulty 1 8 weeks 5 carrier a;
            faulty 1 8 weeks 5;;
            faulty 1 17 weeks 5;carrier a
            faulty 1 18 weeks 5;carrier a;;
            faulty 1 8 weeks 5;weeks 5;
            faulty 1 18 weeks 5;carrier a;weeks 5;
            """);
        story("I: lines in any order", """
            tape weeks 5;carrier a;ask a mon 0 in 0-4;limit 3 2 in 1;series a mon 3 in 0-4;carrier b;ask b sun 3 out 0-4;series b mon 3 out 0-4;
            text() = 8
            count(1) = 2
            count(2) = 2
            count(3) = 2
            limitOf(3, 0) = 2
            """);
    }

    /**
     * At each place of a TEXT each TOKEN that can't stand there is FAULT 1 at its
     * first byte, and the end is, but behind a LINE.
     */
    private static void eachToken() {
        String[] told = ("weeks 9 ; limit 3 4 in 2 ; carrier a ; carrier bc ; series a mon 5 in 0 - 4 new ; series bc tue 5 out 4 - 8 ; "
                + "ask bc tue 6 out 0 - 8 by 3 ; ask a sun 23 in 4 - 8 ;").split(" ");
        // What may stand there: w weeks, # a number, L the word of a LINE, i in, W a name, D a day, Y in or out;
        // n new or ;, b by or ;, and signs for themselves.
        String kinds = "w#;" + "L##i#;" + "LW;" + "LW;" + "LWD#Y#-#n;" + "LWD#Y#-#n" + "LWD#Y#-#b#;" + "LWD#Y#-#b";
        if (told.length != kinds.length()) throw new IllegalStateException(told.length + " tokens, " + kinds.length() + " kinds");
        String[] others = (WORDS + " a bc x abcdef abcdefg limits serie 7 0 99999999999 ; - , . : A \\x00 \\x09 \\x0d \\x7f \\xe1 \\xff").split(" ");
        StringBuilder ahead = new StringBuilder();
        for (int i = 0; i < told.length; i++) {
            char kind = kinds.charAt(i);
            StringBuilder run = new StringBuilder();
            for (String other : others)
                if (!canStand(kind, other)) run.append("faulty 1 " + ahead.length() + " " + ahead + other + " ;\n");
            String cut = ahead.toString().strip();
            if (kind == 'L') run.append("text " + cut + "\n");
            else run.append("faulty 1 " + cut.length() + " " + cut + "\nfaulty 1 " + (cut.length() + 1) + " " + cut + "\\x20\n");
            for (String part : inParts(run.toString())) story("I: FAULT 1 at token " + i + ", " + told[i], part);
            ahead.append(told[i]).append(' ');
        }
        story("I: the TEXT that the tokens were taken from", "text " + ahead + "\ncount(2) = 2\ncount(3) = 2\n");
    }

    /** Some five lines each, so that a run has calls enough. */
    private static List<String> inParts(String run) {
        List<String> parts = new ArrayList<>();
        StringBuilder part = new StringBuilder();
        int lines = 0;
        for (String line : run.split("\n")) {
            part.append(line).append('\n');
            lines++;
            if (lines % 5 == 0) {
                parts.add(part.toString());
                part.setLength(0);
            }
        }
        if (part.length() > 0) parts.add(part.toString());
        return parts;
    }

    private static boolean canStand(char kind, String token) {
        switch (kind) {
            case 'w': return token.equals("weeks");
            case '#': return token.matches("[0-9]+");
            case 'L': return token.matches("limit|carrier|series|ask");
            case 'i': return token.equals("in");
            case 'W': return token.matches("[a-z]{1,6}") && !List.of(WORDS.split(" ")).contains(token);
            case 'D': return token.matches("mon|tue|wed|thu|fri|sat|sun");
            case 'Y': return token.matches("in|out");
            case 'n': return token.matches("new|;");
            case 'b': return token.matches("by|;");
            default: return token.equals(String.valueOf(kind));
        }
    }

    private static void days() {
        String[] days = "mon tue wed thu fri sat sun".split(" ");
        StringBuilder run = new StringBuilder("text weeks 5;carrier a;");
        for (String day : days) run.append("series a " + day + " 1 in 0-4;ask a " + day + " 1 in 0-4;");
        run.append("\n");
        for (int d = 0; d < 7; d++) run.append("series(" + d + ", 1) = " + d + "\nasked(" + d + ", 1) = " + d + "\n");
        story("I: DAY mon .. sun (0 .. 6)", run.toString());
    }

    private static void hours() {
        story("I: HOURS 0 .. 23 of a limit", """
            text weeks 5;limit 0 1 in 0;limit 23 2 in 1;
            limitOf(0, 0) = 1
            limitOf(23, 0) = 2
            faulty 2 14 weeks 5;limit 24 4 in 4;
            faulty 2 14 weeks 5;limit 100000 4 in 4;
            limitOf(0, 0) = 1
            """);
        story("I: HOURS 0 .. 23 of a series, an ask", """
            text weeks 5;carrier a;series a mon 0 in 0-4;series a mon 23 in 0-4;ask a mon 0 in 0-4;ask a mon 23 out 0-4;
            series(0, 2) = 0
            series(1, 2) = 23
            asked(0, 2) = 0
            asked(1, 2) = 23
            asked(1, 3) = 1
            faulty 2 31 weeks 5;carrier a;series a mon 24 in 0-4;
            faulty 2 28 weeks 5;carrier a;ask a mon 24 in 0-4;
            faulty 2 28 weeks 5;carrier a;ask a mon 4294967296 in 0-4;
            """);
    }

    private static void names() {
        story("I: W 1 to 6 letters", """
            text weeks 5;carrier a;carrier z;carrier abcdef;carrier zzzzzz;ask zzzzzz mon 1 in 0-4;
            asked(0, 0) = 3
            letter(2, 5) = 6
            faulty 1 16 weeks 5;carrier abcdefg;
            faulty 1 16 weeks 5;carrier ;
            faulty 1 30 weeks 5;carrier abcdef;series abcdefg mon 1 in 0-4;
            faulty 1 27 weeks 5;carrier abcdef;ask abcdefg mon 1 in 0-4;
            """);
        for (String word : WORDS.split(" ")) {
            story("I: W none of the words told here: " + word, "faulty 1 16 weeks 5;carrier " + word + ";\n"
                    + "faulty 1 25 weeks 5;carrier a;series " + word + " mon 1 in 0-4;\n"
                    + "faulty 1 22 weeks 5;carrier a;ask " + word + " mon 1 in 0-4;\n");
            // One letter less, one more, another last one: names like others.
            String less = word.substring(0, word.length() - 1), more = word + "x";
            String other = word.substring(0, Math.min(word.length(), 6) - 1) + "q";
            story("I: W near the word " + word, "text weeks 5;carrier " + less + ";carrier " + other + ";"
                    + (more.length() < 7 ? "carrier " + more + ";" : "") + "ask " + other + " mon 1 in 0-4;\nasked(0, 0) = 1\n");
        }
    }

    private static void limits() {
        story("I: limit 0 .. 9, of these coming in (no more)", """
            text weeks 5;limit 0 0 in 0;limit 1 9 in 9;limit 2 9 in 0;limit 3 1 in 1;
            limitOf(0, 0) = 0
            limitOf(0, 1) = 0
            limitOf(1, 0) = 9
            limitOf(1, 1) = 9
            limitOf(2, 0) = 9
            limitOf(2, 1) = 0
            faulty 2 16 weeks 5;limit 1 10 in 0;
            faulty 2 16 weeks 5;limit 1 10 in 11;
            faulty 2 21 weeks 5;limit 1 9 in 10;
            faulty 2 21 weeks 5;limit 1 8 in 9;
            faulty 2 21 weeks 5;limit 1 0 in 1;
            limitOf(1, 0) = 9
            """);
        story("I: 4 in 4 without", """
            text weeks 5;limit 12 3 in 2;
            limitOf(0, 0) = 4
            limitOf(0, 1) = 4
            limitOf(11, 0) = 4
            limitOf(12, 0) = 3
            limitOf(12, 1) = 2
            limitOf(13, 0) = 4
            limitOf(23, 0) = 4
            limitOf(23, 1) = 4
            text weeks 5;
            limitOf(12, 0) = 4
            limitOf(12, 1) = 4
            """);
        StringBuilder all = new StringBuilder("weeks 5;");
        for (int h = 0; h < 24; h++) all.append("limit " + h + " 5 in 5;");
        story("I: one of each HOUR, all of them", "text " + all + "\nlimitOf(0, 0) = 5\nlimitOf(23, 1) = 5\n"
                + "faulty 3 " + (all.length() + 6) + " " + all + "limit 0 5 in 5;\n"
                + "faulty 3 " + (all.length() + 6) + " " + all + "limit 23 1 in 1;\n");
        story("I: FAULT 3, a limit of that HOUR again (at it)", """
            faulty 3 29 weeks 5;limit 2 3 in 3;limit 2 3 in 3;
            faulty 3 29 weeks 5;limit 2 4 in 4;limit 2 4 in 4;
            faulty 3 29 weeks 5;limit 2 3 in 3;limit 002;
            faulty 3 29 weeks 5;limit 0 3 in 3;limit 0 10 in 3;
            faulty 3 31 weeks 5;limit 23 3 in 3;limit  23
            text weeks 5;limit 2 3 in 3;limit 3 3 in 3;
            """);
        story("I: FAULT 5, a limit behind a series (at the word)", """
            faulty 5 40 weeks 5;carrier a;series a mon 1 in 0-4;limit 2 3 in 3;
            faulty 5 40 weeks 5;carrier a;series a mon 1 in 0-4;limit 24
            faulty 5 40 weeks 5;carrier a;series a mon 1 in 0-4;limit
            faulty 5 59 weeks 5;limit 2 3 in 3;carrier a;series a mon 1 in 0-4;  \\n limit 2 3 in 3;
            text weeks 5;carrier a;ask a mon 1 in 0-4;limit 2 3 in 3;series a mon 1 in 0-4;
            limitOf(2, 0) = 3
            """);
    }

    private static void carriers() {
        String eight = "weeks 5;carrier a;carrier b;carrier c;carrier d;carrier e;carrier f;carrier g;carrier h;";
        story("I: 8 carriers; FAULT 5, a 9th carrier (at the word)", "text " + eight + "ask h mon 1 in 0-4;\n"
                + "count(1) = 8\nasked(0, 0) = 7\n"
                + "faulty 5 88 " + eight + "carrier i;\n"
                + "faulty 5 88 " + eight + "carrier a;\n"
                + "faulty 5 88 " + eight + "carrier abcdefg;\n"
                + "faulty 5 88 " + eight + "carrier\n"
                + "faulty 5 89 " + eight + " carrier i\n"
                + "text " + eight.replace("carrier h;", "") + "\ncount(1) = 7\n");
        story("I: names unlike; FAULT 3, a name again", """
            faulty 3 26 weeks 5;carrier a;carrier a;
            faulty 3 31 weeks 5;carrier abcdef;carrier abcdef
            faulty 3 36 weeks 5;carrier a;carrier b;carrier a;
            text weeks 5;carrier a;carrier aa;carrier aaaaa;carrier aaaaaa;carrier ab;carrier b;
            count(1) = 6
            """);
        story("I: a series, an ask is of one told ahead; FAULT 4, a carrier that is none", """
            faulty 4 15 weeks 5;series a mon 1 in 0-4;carrier a;
            faulty 4 12 weeks 5;ask a mon 1 in 0-4;carrier a;
            faulty 4 25 weeks 5;carrier a;series b mon 1 in 0-4;carrier b;
            faulty 4 25 weeks 5;carrier a;series aa mon 1 in 0-4;
            faulty 4 26 weeks 5;carrier aa;series a mon 1 in 0-4;
            faulty 4 22 weeks 5;carrier a;ask b nonsense;
            text weeks 5;carrier a;ask a mon 1 in 0-4;carrier b;ask b mon 1 in 0-4;
            asked(0, 0) = 0
            asked(1, 0) = 1
            """);
        story("I: no carrier of another TEXT", """
            text weeks 5;carrier a;
            faulty 4 12 weeks 5;ask a mon 1 in 0-4;
            """);
    }

    private static void spans() {
        story("I: from WEEK to WEEK below N; FAULT 2 of weeks at the second number", """
            text weeks 9;carrier a;series a mon 2 in 0-8;series a mon 2 in 4-8;ask a mon 2 in 0-8;
            series(0, 5) = 511
            series(1, 5) = 496
            faulty 2 38 weeks 9;carrier a;series a mon 2 in 0-9;
            faulty 2 38 weeks 9;carrier a;series a mon 2 in 8-9;
            faulty 2 38 weeks 9;carrier a;series a mon 2 in 9-9;
            faulty 2 38 weeks 9;carrier a;series a mon 2 in 9-13;
            faulty 2 38 weeks 9;carrier a;series a mon 2 in 9-8;
            faulty 2 35 weeks 9;carrier a;ask a mon 2 in 0-9;
            faulty 2 35 weeks 9;carrier a;ask a mon 2 in 9-13;
            """);
        story("I: at least 5 of them", """
            text weeks 9;carrier a;series a mon 2 in 3-7;ask a mon 2 in 4-8;ask a mon 2 in 0-4;
            series(0, 5) = 248
            faulty 2 38 weeks 9;carrier a;series a mon 2 in 0-3;
            faulty 2 38 weeks 9;carrier a;series a mon 2 in 4-7;
            faulty 2 38 weeks 9;carrier a;series a mon 2 in 5-8;
            faulty 2 38 weeks 9;carrier a;series a mon 2 in 4-4;
            faulty 2 38 weeks 9;carrier a;series a mon 2 in 4-3;
            faulty 2 38 weeks 9;carrier a;series a mon 2 in 8-0;
            faulty 2 35 weeks 9;carrier a;ask a mon 2 in 3-6;
            faulty 2 35 weeks 9;carrier a;ask a mon 2 in 5-8;
            """);
        story("I: from WEEK to WEEK, at the least N and the greatest", """
            text weeks 5;carrier a;series a mon 2 in 0-4;
            faulty 2 38 weeks 5;carrier a;series a mon 2 in 1-4;
            faulty 2 38 weeks 5;carrier a;series a mon 2 in 0-5;
            faulty 2 38 weeks 5;carrier a;series a mon 2 in 1-5;
            text weeks 30;carrier a;series a mon 2 in 25-29;ask a mon 2 in 25-29;
            series(0, 5) = 1040187392
            faulty 2 40 weeks 30;carrier a;series a mon 2 in 26-29;
            faulty 2 40 weeks 30;carrier a;series a mon 2 in 25-30;
            faulty 2 40 weeks 30;carrier a;series a mon 2 in 26-30;
            """);
        story("I: FAULT 2 of weeks at the second number, far beyond", """
            faulty 2 48 weeks 9;carrier a;series a mon 2 in 99999999999-99999999999;
            faulty 2 47 weeks 9;carrier a;series a mon 2 in 4294967296-4;
            faulty 2 38 weeks 9;carrier a;series a mon 2 in 0-4294967300;
            faulty 2 47 weeks 9;carrier a;series a mon 2 in 2147483647-2147483648;
            faulty 1 42 weeks 9;carrier a;series a mon 2 in 99 - \\n
            """);
    }

    private static String many(String line, int n) {
        StringBuilder b = new StringBuilder("weeks 5;carrier a;");
        for (int i = 0; i < n; i++) b.append(line.replace("#", String.valueOf(i % 24)));
        return b.toString();
    }

    private static void manySeries() {
        String all = many("series a mon # in 0-4;", 24);
        story("I: 24 SERIES, numbered as they come", "text " + all + "ask a mon 1 in 0-4;\ncount(2) = 24\nseries(23, 2) = 23\nseries(0, 2) = 0\nseries(24, 2) = -2\n");
        story("I: 23 SERIES and a 24th", "text " + many("series a mon # in 0-4;", 23) + "\ncount(2) = 23\nseries(23, 2) = -2\n");
        int place = all.length();
        story("I: FAULT 5, a 25th series (at the word)", "text weeks 7;\nfaulty 5 " + place + " " + all + "series a tue 1 in 0-4;\ncount(0) = 7\ncount(2) = 0\n");
        story("I: FAULT 5, a 25th series, whatever is behind the word", "faulty 5 " + place + " " + all + "series mon;\nfaulty 5 " + (place + 2) + " " + all + "  series\n");
        story("I: 24 SERIES and 24 ASKS: none of the other sort counts", "text " + many("series a mon # in 0-4;", 24) + "ask a mon 1 in 0-4;ask a mon 1 in 0-4;\ncount(2) = 24\ncount(3) = 2\n");
    }

    private static void manyAsks() {
        String all = many("ask a mon # in 0-4;", 24);
        story("I: 24 ASKS, numbered as they come", "text " + all + "series a mon 1 in 0-4;\ncount(3) = 24\nasked(23, 2) = 23\nasked(0, 2) = 0\nasked(24, 2) = -2\ncount(2) = 1\n");
        int place = all.length();
        story("I: FAULT 5, a 25th ask (at the word)", "text weeks 7;\nfaulty 5 " + place + " " + all + "ask a tue 1 in 0-4;\ncount(0) = 7\ncount(3) = 0\n");
        story("I: FAULT 5, a 25th ask, whatever is behind the word", "faulty 5 " + place + " " + all + "ask mon;\nfaulty 5 " + (place + 1) + " " + all + "\\nask\n");
    }

    private static void by() {
        story("I: by 0 .. 9 (0 without)", """
            text weeks 5;carrier a;ask a mon 2 in 0-4 by 0;ask a mon 2 in 0-4 by 9;ask a mon 2 in 0-4;
            asked(0, 6) = 0
            asked(1, 6) = 9
            asked(2, 6) = 0
            faulty 2 40 weeks 5;carrier a;ask a mon 2 in 0-4 by 10;
            faulty 2 40 weeks 5;carrier a;ask a mon 2 in 0-4 by 4294967296;
            faulty 1 40 weeks 5;carrier a;ask a mon 2 in 0-4 by -1;
            faulty 1 39 weeks 5;carrier a;ask a mon 2 in 0-4 by;
            """);
    }

    private static void tokens() {
        story("I: blanks (32, 10) aside", """
            tape \\n  weeks \\n\\n 5\\n;\\n carrier\\na\\n;  ask a mon 2\\nin 0 \\n-\\n 4\\nby\\n3 ;\\n\\n\\x20
            text() = 3
            asked(0, 6) = 3
            tape weeks\\n5;
            text() = 1
            """);
        story("I: no other byte is a blank", """
            faulty 1 5 weeks\\x095;
            faulty 1 5 weeks\\x0d5;
            faulty 1 5 weeks\\x0b5;
            faulty 1 5 weeks\\x1f5;
            faulty 1 5 weeks\\x215;
            faulty 1 5 weeks\\xa05;
            faulty 1 5 weeks\\x8a5;
            faulty 1 8 weeks 5;\\x00
            faulty 1 8 weeks 5;\\x09
            """);
        story("I: TOKENS, the longest: words", """
            faulty 1 0 we eks 5;
            faulty 1 0 weeksx 5;
            faulty 1 0 xweeks 5;
            faulty 1 18 weeks 5;carrier a b;
            faulty 1 27 weeks 5;carrier a;series a monin;
            text weeks5;limit3 4in2;carrier a;ask a mon5in0-4by9;
            asked(0, 6) = 9
            limitOf(3, 1) = 2
            faulty 1 21 weeks 5;limit 3 4in 2in
            """);
        story("I: TOKENS, the longest: numbers", """
            faulty 2 6 weeks 1 0;
            faulty 1 9 weeks 10 0;
            faulty 2 6 weeks 100;
            text weeks 010;
            count(0) = 10
            text weeks 0000000000000000000000000000000000005;
            count(0) = 5
            faulty 1 7 weeks 5x;
            faulty 1 6 weeks x5;
            """);
        story("I: letters a .. z alone", """
            faulty 1 17 weeks 5;carrier a`;
            faulty 1 17 weeks 5;carrier a{;
            faulty 1 17 weeks 5;carrier aZ;
            faulty 1 17 weeks 5;carrier a\\xe1;
            faulty 1 17 weeks 5;carrier z\\x00;
            faulty 1 16 weeks 5;carrier A;
            faulty 1 16 weeks 5;carrier \\xfa;
            text weeks 5;carrier az;
            """);
        story("I: digits 0 .. 9 alone", """
            faulty 1 7 weeks 5/;
            faulty 1 7 weeks 5:;
            faulty 1 7 weeks 5\\xb0;
            faulty 1 6 weeks /5;
            faulty 1 6 weeks :5;
            faulty 1 6 weeks -5;
            faulty 1 6 weeks +5;
            text weeks 09;
            """);
        story("I: else single bytes", """
            faulty 1 8 weeks 5;;;
            faulty 1 9 weeks 5; ;;
            faulty 1 38 weeks 9;carrier a;series a mon 2 in 0--4;
            faulty 1 39 weeks 9;carrier a;series a mon 2 in 0-4-;
            """);
    }

    private static void faultsOfSeveral() {
        story("I: of several FAULTS the one whose first byte is least", """
            faulty 2 6 weeks 4;carrier mon;
            faulty 1 8 weeks 5;?limit 24 4 in 4;
            faulty 2 14 weeks 5;limit 24 10 in 11 ?
            faulty 2 16 weeks 5;limit 3 10 out
            faulty 3 26 weeks 5;carrier a;carrier a?
            faulty 4 25 weeks 5;carrier a;series b mon 24 up 9-0
            faulty 2 31 weeks 5;carrier a;series a mon 24 up 9-0
            faulty 1 33 weeks 5;carrier a;series a mon 2 up 9-0
            faulty 2 38 weeks 5;carrier a;series a mon 2 in 9-0 by
            faulty 1 40 weeks 5;carrier a;series a mon 2 in 0-4 by 10;limit 2
            """);
        story("I: of one byte the least number", """
            faulty 1 25 weeks 5;carrier a;series bbbbbbb mon 1 in 0-4;
            faulty 1 25 weeks 5;carrier a;series weeks mon 1 in 0-4;
            faulty 1 22 weeks 5;carrier a;ask out mon 1 in 0-4;
            faulty 1 55 weeks 5;limit 1 0 in 0;carrier a;series a mon 1 in 0-4 by 1;
            """);
        story("I: the end's first byte", """
            faulty 1 0
            faulty 1 1 \\n
            faulty 1 3 \\n\\n\\n
            faulty 1 6 weeks\\n
            faulty 1 15 weeks 5;carrier
            faulty 1 16 weeks 5;carrier\\x20
            faulty 1 43 weeks 5;carrier a;series a mon 1 in 0-4 new
            faulty 1 39 weeks 5;carrier a;series a mon 1 in 0-4
            """);
        story("I: of weeks at the second number, if there is one", """
            faulty 1 38 weeks 9;carrier a;series a mon 2 in 99;
            faulty 1 39 weeks 9;carrier a;series a mon 2 in 99-;
            faulty 1 39 weeks 9;carrier a;series a mon 2 in 99 5
            faulty 2 39 weeks 9;carrier a;series a mon 2 in 99-5
            """);
    }

    private static void notFitting() {
        String limited = "weeks 9;limit 2 2 in 1;carrier a;";
        story("I: FAULT 6, a series that does not FIT (at its ;), by those that come in", "text " + limited + "series a mon 2 in 0-4;series a mon 2 out 4-8;\n"
                + "faulty 6 76 " + limited + "series a mon 2 in 0-4;series a mon 2 in 4-8;\n"
                + "faulty 6 82 " + limited + "series a mon 2 in 0-4;series a mon 2 in 4-8 new  ;\n"
                + "faulty 1 76 " + limited + "series a mon 2 in 0-4;series a mon 2 in 4-8\n"
                + "text " + limited + "series a mon 2 in 0-4;\n"
                + "count(2) = 1\n");
        story("I: a series that FITS: other WEEKS, another DAY, another HOUR", "text weeks 10;limit 2 1 in 1;limit 3 1 in 1;carrier a;"
                + "series a mon 2 in 0-4;series a mon 2 in 5-9;series a tue 2 in 0-9;series a mon 3 in 0-9;\ncount(2) = 4\n");
        story("I: FAULT 6 by all", "faulty 6 100 " + limited + "series a mon 2 in 0-4;series a mon 2 out 0-4;series a mon 2 out 4-8;\n"
                + "text " + limited + "series a mon 2 out 0-4;series a mon 2 out 0-4;series a mon 3 in 4-8;\n"
                + "faulty 6 77 weeks 9;limit 2 1 in 1;carrier a;series a mon 2 in 0-4;series a mon 2 out 4-8;\n");
        story("I: FAULT 6 where none are taken", "faulty 6 54 weeks 9;limit 2 0 in 0;carrier a;series a mon 2 in 0-4;\n"
                + "faulty 6 54 weeks 9;limit 2 9 in 0;carrier a;series a mon 2 in 0-4;\n"
                + "text weeks 9;limit 2 9 in 0;carrier a;series a mon 2 out 0-4;\n"
                + "text weeks 9;limit 2 0 in 0;carrier a;ask a mon 2 in 0-4;\n");
        story("I: FAULT 6 at 4 in 4", "text weeks 5;carrier a;" + "series a mon 2 in 0-4;".repeat(4) + "\ncount(2) = 4\n"
                + "faulty 6 " + (18 + 5 * 22 - 1) + " weeks 5;carrier a;" + "series a mon 2 in 0-4;".repeat(5) + "\n"
                + "faulty 6 " + (18 + 4 * 22 + 22) + " weeks 5;carrier a;" + "series a mon 2 in 0-4;".repeat(4) + "series a mon 2 out 0-4;\n");
        story("I: FAULT 6 at 9 in 9", "text weeks 5;limit 2 9 in 9;carrier a;" + "series a mon 2 in 0-4;".repeat(9) + "\ncount(2) = 9\n"
                + "faulty 6 " + (33 + 10 * 22 - 1) + " weeks 5;limit 2 9 in 9;carrier a;" + "series a mon 2 in 0-4;".repeat(10) + "\n");
    }

    // ---- promises 1 to 8

    private static void newObject() {
        StringBuilder run = new StringBuilder();
        for (int k = 0; k < 8; k++) run.append("count(" + k + ") = 0\n");
        story("1: no TEXT", run + """
            fault(0) = 0
            fault(1) = -1
            undo() = -1 !
            octet(0) = -1
            tell() = -2 !
            tick() = -2 !
            pool() = -2 !
            ends() = -2 !
            first() = -2
            would() = -2
            best(0) = -2
            limit(0, 4, 4) = -2 !
            """);
    }

    private static void feeding() {
        // "weeks 5;carrier abc;"
        story("2: twenty bytes, four of each number, the highest first", """
            feed(2003133803, 1931490619, 1667330674, 1768256032, 1633837883) = 20
            text() = 2
            letter(0, 0) = 1
            letter(0, 1) = 2
            letter(0, 2) = 3
            letter(0, 3) = 0
            feed(-1, -1, -1, -1, -1) = 20
            text() = -4
            fault(1) = 0
            feed(0, 0, 0, 0, 0) = 20
            text() = -4
            fault(1) = 0
            feed(MIN, MAX, MIN, MAX, 0) = 20
            find() = -2
            """);
        story("2: behind the TAPE", """
            tape weeks 5;carr
            feed(1768256032, 1631264800, 538976288, 538976288, 538976288) = 32
            text() = 2
            letter(0, 0) = 1
            """);
        story("2: NONE, if it would have more than 1200", """
            59 x feed(538976288, 538976288, 538976288, 538976288, 538976288)
            count(7) = 1180
            feed(2003133803, 1931490619, 538976288, 538976288, 538976288) = 1200
            feed(1, 2, 3, 4, 5) = -1 !
            count(7) = 1200
            feed(0, 0, 0, 0, 0) = -1 !
            end(1199) = 1199
            feed(0, 0, 0, 0, 0) = -1 !
            end(1188) = 1188
            feed(0, 0, 0, 0, 0) = -1 !
            count(7) = 1188
            text() = 1
            feed(0, 0, 0, 0, 0) = 20
            """);
        story("2: 1181 bytes and twenty are too many, 1180 are not", """
            60 x feed(538976288, 538976288, 538976288, 538976288, 538976288)
            end(1181) = 1181
            feed(0, 0, 0, 0, 0) = -1 !
            end(1180) = 1180
            feed(2003133803, 1931490619, 538976288, 538976288, 538976288) = 1200
            text() = 1
            """);
        // The longest TEXT, with something to be seen at its end.
        String carriers = "carrier abcdef;";
        story("2, 4: a TEXT of 1200 bytes", "tape weeks 5;" + " ".repeat(1200 - 8 - carriers.length()) + carriers + "\n"
                + "count(7) = 1200\ntext() = 2\nletter(0, 5) = 6\ncount(7) = 0\n");
        story("4: a FAULT at the 1200th byte, and at the end behind it", "tape weeks 5;" + "\\n".repeat(1191) + "?\n"
                + "text() = -4\nfault(0) = 1\nfault(1) = 1199\n"
                + "tape weeks " + "0".repeat(1193) + "5\ntext() = -4\nfault(0) = 1\nfault(1) = 1200\n"
                + "tape weeks 5;" + " ".repeat(1186) + "carrie\ntext() = -4\nfault(0) = 1\nfault(1) = 1194\n"
                + "tape weeks 5;" + " ".repeat(1185) + "carrier\ntext() = -4\nfault(0) = 1\nfault(1) = 1200\n"
                + "tape weeks " + "0".repeat(1192) + "5;\ntext() = 1\nfault(0) = 0\n");
    }

    private static void ending() {
        story("3: NONE, if it has not so many, or n is below 0", """
            end(0) = 0
            end(1) = -1 !
            end(-1) = -1 !
            tape abcdef
            end(7) = -1 !
            end(6) = 6
            end(MAX) = -1 !
            end(MIN) = -1 !
            end(-1) = -1 !
            count(7) = 6
            end(5) = 5
            end(6) = -1 !
            end(0) = 0
            end(1) = -1 !
            count(7) = 0
            """);
        story("3: its first n bytes alone", """
            text weeks 5;carrier abc;carrier abcdef;carrier ab;
            tape abcdef
            end(3) = 3
            find() = 0
            tape abcdef
            end(6) = 6
            find() = 1
            tape abcdef
            end(3) = 3
            end(2) = 2
            find() = 2
            tape abcxyz
            end(3) = 3
            tape def
            count(7) = 6
            find() = 1
            """);
        story("3: nothing stands behind the end", """
            tape weeks 12;
            end(7) = 7
            text() = -4
            fault(0) = 2
            fault(1) = 6
            tape weeks 55;
            end(7) = 7
            text() = -4
            fault(0) = 1
            fault(1) = 7
            tape weeks 5;carrier ab;
            end(17) = 17
            text() = -4
            fault(1) = 17
            tape weeks 5;carrier ab;
            end(8) = 8
            text() = 1
            """);
        story("3: without a TEXT and with one", """
            tape weeks 6;zz
            end(8) = 8
            text() = 1
            end(0) = 0
            end(1) = -1 !
            """);
    }

    private static void reading() {
        story("4: in place of another", """
            text weeks 9;limit 1 1 in 1;carrier abc;carrier b;series abc mon 1 in 0-8;series b mon 2 in 0-8;ask b mon 3 in 0-8;
            9 x tick()
            ends() = 2
            tick() = 1
            text weeks 6;carrier z;
            count(0) = 6
            count(1) = 1
            count(2) = 0
            count(3) = 0
            count(4) = 0
            count(5) = 0
            count(6) = 0
            count(7) = 0
            limitOf(1, 0) = 4
            letter(0, 0) = 26
            letter(0, 1) = 0
            series(0, 0) = -2
            asked(0, 0) = -2
            load(0, 0, 1, 0) = 0
            undo() = -1 !
            told weeks 6;carrier z;
            """);
        story("4: -4, and all else stays", """
            text weeks 9;limit 1 3 in 2;carrier abc;carrier b;series abc mon 1 in 0-8;series b mon 2 in 0-8;ask b mon 3 in 0-8;
            miss(0, 3) = 0
            tell() = 110
            9 x tick()
            ends() = 2
            back(0, 6) = 3
            faulty 1 0 x
            faulty 2 6 weeks 4;
            faulty 3 29 weeks 5;limit 1 1 in 1;limit 1 1 in 1;
            faulty 4 15 weeks 5;series abc mon 1 in 0-4;
            faulty 5 40 weeks 5;carrier a;series a mon 1 in 0-4;limit 2 2 in 2;
            faulty 6 54 weeks 5;limit 1 0 in 0;carrier a;series a mon 1 in 0-4;
            count(6) = 10
            undo() = 9
            undo() = 8
            count(4) = 9
            """);
        story("4: -4 ahead of any TEXT", """
            faulty 2 6 weeks 4;
            count(0) = 0
            tell() = -2 !
            tick() = -2 !
            text weeks 5;
            count(0) = 5
            """);
        story("4: the TAPE is empty then", """
            tape weeks 5;
            text() = 1
            count(7) = 0
            text() = -4
            fault(0) = 1
            fault(1) = 0
            count(0) = 5
            tape x
            text() = -4
            count(7) = 0
            tape weeks 6;
            text() = 1
            count(0) = 6
            """);
        story("4: how many LINES (weeks too), at the most", "tape " + fullest() + "\ntext() = 57\ncount(2) = 24\ncount(3) = 24\ncount(1) = 8\n");
    }

    /** 8 carriers, 24 series and 24 asks in no more than 1200 bytes. */
    private static String fullest() {
        StringBuilder b = new StringBuilder("weeks5;");
        for (int i = 0; i < 8; i++) b.append("carrier " + (char) ('a' + i) + ";");
        for (int i = 0; i < 24; i++) b.append("series a mon" + i + "in0-4;");
        for (int i = 0; i < 24; i++) b.append("ask h mon" + i + "in0-4;");
        return b.toString();
    }

    private static void latestFault() {
        story("5: ahead of any, and for another what", """
            fault(0) = 0
            fault(1) = -1
            fault(-1) = -1
            fault(2) = -1
            fault(MAX) = -1
            fault(MIN) = -1
            """);
        story("5: of the latest text(), whatever came since", """
            tape weeks 5;?
            text() = -4
            fault(0) = 1
            fault(1) = 8
            fault(2) = -1
            fault(-1) = -1
            tape a
            find() = -2
            undo() = -1
            fault(0) = 1
            fault(1) = 8
            tape weeks 31;
            fault(1) = 8
            text() = -4
            fault(0) = 2
            fault(1) = 6
            tape weeks 30;
            text() = 1
            fault(0) = 0
            fault(1) = -1
            fault(2) = -1
            30 x tick()
            fault(0) = 0
            text() = -4
            fault(0) = 1
            fault(1) = 0
            """);
    }

    private static void counting() {
        story("6: NONE for others", """
            count(-1) = -1
            count(8) = -1
            count(MAX) = -1
            count(MIN) = -1
            text weeks 5;
            count(-1) = -1
            count(8) = -1
            count(MAX) = -1
            count(MIN) = -1
            """);
        story("6: 0 .. 5: 0 without a TEXT, 7 not", """
            tape weeks 31;
            count(7) = 9
            count(0) = 0
            count(4) = 0
            count(6) = 0
            text() = -4
            count(0) = 0
            count(1) = 0
            count(2) = 0
            count(3) = 0
            count(4) = 0
            count(5) = 0
            count(6) = 0
            count(7) = 0
            """);
        story("6: NOW up to N, seasons, acts up to 10", """
            text weeks 5;carrier a;ask a mon 1 in 0-4;
            count(3) = 1
            4 x tick()
            count(4) = 4
            tick() = 5
            count(4) = 5
            count(5) = 0
            count(6) = 5
            ends() = 0
            count(3) = 0
            count(4) = 0
            count(5) = 1
            count(6) = 6
            4 x tick()
            count(6) = 10
            tick() = 5
            count(6) = 10
            ends() = 0
            count(5) = 2
            undo() = 9
            count(5) = 1
            count(6) = 9
            """);
    }

    private static void letters() {
        story("7: letter i (0 .. 5): 1 .. 26, 0 behind it", """
            letter(0, 0) = -2
            text weeks 5;carrier z;carrier abcxyz;
            letter(0, 0) = 26
            letter(0, 1) = 0
            letter(0, 5) = 0
            letter(0, 6) = -2
            letter(0, -1) = -2
            letter(1, 0) = 1
            letter(1, 5) = 26
            letter(1, 6) = -2
            letter(1, -1) = -2
            letter(2, 0) = -2
            letter(-1, 0) = -2
            """);
    }

    private static void finding() {
        story("8: a name: letters a .. z alone, 1 to 6", """
            text weeks 5;carrier a;carrier zzzzzz;
            find() = -2 !
            tape a
            find() = 0
            tape zzzzzz
            find() = 1
            tape zzzzzzz
            find() = -2 !
            tape z
            find() = -1 !
            tape zzzzz
            find() = -1 !
            tape aa
            find() = -1 !
            tape in
            find() = -1 !
            tape `
            find() = -2
            tape {
            find() = -2
            tape a{
            find() = -2
            tape A
            find() = -2
            tape a1
            find() = -2
            tape a\\n
            find() = -2
            tape \\x20a
            find() = -2
            tape \\xe1
            find() = -2
            tape a\\x00
            find() = -2
            tape a
            find() = 0
            """);
        story("8: the TAPE (empty then)", """
            tape ab
            find() = -2
            count(7) = 0
            text weeks 5;carrier ab;
            tape ab
            find() = 0
            count(7) = 0
            find() = -2
            tape ba
            find() = -1
            count(7) = 0
            tape ab1
            find() = -2
            count(7) = 0
            tape ababababababababababab
            find() = -2
            count(7) = 0
            """);
        story("8: -2 without a TEXT as well; NONE with one without carriers", """
            tape ab
            find() = -2
            tape 1
            find() = -2
            text weeks 5;
            tape ab
            find() = -1
            tape 1
            find() = -2
            """);
    }
}
