import java.util.function.IntPredicate;

/** The edges of the document's sentences on the tape and the text: a method a sentence. */
final class TextEdges {
    private static final String TERMS = "Terms";
    private static final String COURT = Courts.COURT;
    private static final int MIN = Integer.MIN_VALUE;
    private static final int MAX = Integer.MAX_VALUE;

    static final Runnable[] ALL = {
        TextEdges::blanks, TextEdges::words, TextEdges::numbers, TextEdges::sign, TextEdges::goesOn,
        TextEdges::notAsToldIsNoToken,
        TextEdges::atMost500, TextEdges::noLineOrMore, TextEdges::firstLine, TextEdges::seedRange,
        TextEdges::unsureRange, TextEdges::evenRange, TextEdges::loadedRange, TextEdges::chairRange,
        TextEdges::others, TextEdges::seniorityRange, TextEdges::nineJudges, TextEdges::seniorRange,
        TextEdges::seniorOnce, TextEdges::seniorWithout, TextEdges::caseLine, TextEdges::weightRange,
        TextEdges::barredToldAhead, TextEdges::barredNoTwoAlike, TextEdges::fourteenCases,
        TextEdges::firstAlongTheText, TextEdges::leastOfOneToken, TextEdges::cannotCome, TextEdges::atTheEnd,
        TextEdges::numberNotAsTold, TextEdges::numberOfJ, TextEdges::tenthJudge, TextEdges::secondSenior,
        TextEdges::fifteenthCase, TextEdges::notTold, TextEdges::toldAlready,
        TextEdges::moreThan500, TextEdges::noFaultAhead, TextEdges::readWhole,
        TextEdges::newObject, TextEdges::twentyBytes, TextEdges::moreThan540, TextEdges::firstBytesAlone,
        TextEdges::notSoMany, TextEdges::below0,
        TextEdges::emptyThen, TextEdges::anEmptyText, TextEdges::howManyLines, TextEdges::placeOfAFault,
        TextEdges::latestFault, TextEdges::withoutFault
    };

    private TextEdges() {
    }

    private static void due(String what, long got, long want) {
        Check.due(what, got, want);
    }

    // tokens

    private static boolean isBlank(int sign) {
        return sign == 32 || sign == 10;
    }

    private static boolean isSmallOrDigit(int sign) {
        return sign >= 'a' && sign <= 'z' || sign >= '0' && sign <= '9';
    }

    private static boolean isNoToken(int sign) {
        return !isBlank(sign) && !isSmallOrDigit(sign) && sign != ';';
    }

    /** A FAULT of kind 1 at the place, with each of these signs between the two parts. */
    private static void eachSign(IntPredicate which, String ahead, String behind, int place) {
        for (int sign = 0; sign < 256; sign++) {
            if (which.test(sign)) {
                Check.wrong(ahead + (char) sign + behind, place, 1);
            }
        }
    }

    private static void blanks() {
        Doc.says(TERMS, "TOKENS of a text, with blanks (32, 10) between them or not:");
        Check.right("court 1 1 1 1 1;judge 5;case 1 not 0;", 3);
        Check.right(" \n\ncourt\n1  1 \n1\n 1 1\n;\n judge\n5 ;case 1\nnot 0 ;  \n", 3);
        // Any other sign between two TOKENS is no blank.
        eachSign(TextEdges::isNoToken, "court 1 1 1 1 1 ", " ;", 16);
        eachSign(TextEdges::isNoToken, "court", "1 1 1 1 1;", 5);
    }

    private static void words() {
        Doc.says(TERMS, "WORDS: small letters;");
        Check.wrong("Court 1 1 1 1 1;", 0, 1);
        Check.wrong("courT 1 1 1 1 1;", 0, 1);
        Check.wrong("COURT 1 1 1 1 1;", 0, 1);
        Check.wrong(COURT + "`udge 5;", 16, 1);
        Check.wrong(COURT + "{udge 5;", 16, 1);
        for (char letter = 'a'; letter <= 'z'; letter++) {
            // One letter more, and it is another WORD.
            Check.wrong(COURT + "judge" + letter + " 5;", 16, 1);
            Check.wrong(COURT + "judge 5;case 1 not" + letter + " 0;", 31, 1);
        }
    }

    private static void numbers() {
        Doc.says(TERMS, "NUMBERS: 1 to 4 digits;");
        String[] digits = {"7", "07", "007", "0007"};
        for (String number : digits) {
            due("SEED " + number, Courts.of("court " + number + " 1 1 1 1;").now(2), 7);
        }
        for (int digit = 0; digit <= 9; digit++) {
            due("digit " + digit, Courts.of("court 1" + digit + "00 1 1 1 1;").now(2), 1000 + 100 * digit);
        }
        Check.wrong("court 00007 1 1 1 1;", 6, 1);
        Check.wrong("court 10000 1 1 1 1;", 6, 1);
        Check.wrong("court 7 00001 1 1 1;", 8, 1);
        Check.wrong("court " + "0".repeat(100) + " 1 1 1 1;", 6, 1);
        // As int arithmetic wraps round, this is 7.
        Check.wrong("court 4294967303 1 1 1 1;", 6, 1);
        Check.wrong("court ; 1 1 1 1;", 6, 1);
    }

    private static void sign() {
        Doc.says(TERMS, "the sign ;");
        Check.right("court 1 1 1 1 1;", 1);
        Check.right("court 1 1 1 1 1 ;judge 1 ;", 2);
        eachSign(TextEdges::isNoToken, "court 1 1 1 1 1", "", 15);
    }

    private static void goesOn() {
        Doc.says(TERMS, "(A WORD, NUMBER goes on as long as small letters and digits do;");
        eachSign(TextEdges::isSmallOrDigit, COURT + "judge", " 5;", 16);
        eachSign(sign -> sign >= 'a' && sign <= 'z', COURT + "judge 5", ";", 22);
        // Behind another sign another TOKEN begins.
        eachSign(sign -> !isBlank(sign) && !isSmallOrDigit(sign), COURT + "judge", " 5;", 21);
        eachSign(TextEdges::isNoToken, COURT + "judge 5", ";", 23);
        due("two digits are one NUMBER", Courts.of(COURT + "judge 42;").judge(0, 0), 42);
    }

    private static void notAsToldIsNoToken() {
        Doc.says(TERMS, "what is not as told is no TOKEN.)");
        Check.wrong("court1 1 1 1 1;", 0, 1);
        Check.wrong("1court 1 1 1 1 1;", 0, 1);
        Check.wrong("court 1x 1 1 1 1;", 6, 1);
        Check.wrong("court x1 1 1 1 1;", 6, 1);
        Check.wrong("court 0x1 1 1 1 1;", 6, 1);
        Check.wrong(COURT + "judge 5;case 1 not0;", 31, 1);
        Check.wrong(COURT + "judge 5;case 1 not 0x;", 35, 1);
        Check.wrong(COURT + "judge 5;case 1 not x;", 35, 1);
    }

    // lines

    private static void atMost500() {
        Doc.says(TERMS, "A TEXT has at most 500 bytes:");
        String to492 = COURT + " ".repeat(492 - COURT.length());
        Check.right(to492 + "judge 5;", 2);
        Check.right(to492 + "judge\n9;", 2);
        Check.right(COURT + " ".repeat(500 - COURT.length()), 1);
        Check.wrong(to492 + " judge 5;", 500, 1);
        Check.wrong(to492 + "judge 5; ", 500, 1);
        Check.wrong(to492 + "judge 5;".repeat(6), 500, 1);
    }

    private static void noLineOrMore() {
        Doc.says(TERMS, "{ LINE ; }.");
        Check.right("", 0);
        Check.right(" ", 0);
        Check.right("\n", 0);
        Check.right(COURT, 1);
        Check.right(COURT + "judge 5;", 2);
        Check.wrong(";", 0, 1);
        Check.wrong(COURT + ";", 16, 1);
        Check.wrong(COURT + "judge 5;;", 24, 1);
        Check.wrong(COURT + "judge 5", 23, 1);
        Check.wrong(COURT + "judge 5 judge 5;", 24, 1);
        String most = COURT + "judge 5;".repeat(9) + "senior 5;" + "case 1;".repeat(14);
        Check.right(most, 25);
    }

    private static void firstLine() {
        Doc.says(TERMS, "The first LINE: 'court' SEED UNSURE EVEN LOADED CHAIR");
        Check.wrong("judge 5;" + COURT, 0, 1);
        Check.wrong("senior 5;" + COURT, 0, 1);
        Check.wrong("case 5;" + COURT, 0, 1);
        Check.wrong(COURT + COURT, 16, 1);
        Check.wrong("dourt 1 1 1 1 1;", 0, 1);
        Check.wrong("cours 1 1 1 1 1;", 0, 1);
        Check.wrong("court;", 5, 1);
        Check.wrong("court 1;", 7, 1);
        Check.wrong("court 1 1;", 9, 1);
        Check.wrong("court 1 1 1;", 11, 1);
        Check.wrong("court 1 1 1 1;", 13, 1);
        Check.wrong("court 1 1 1 1 1 1;", 16, 1);
    }

    private static void seedRange() {
        Doc.says(TERMS, "(0 to 9999,");
        due("SEED 0", Courts.of("court 0 1 1 1 1;").now(2), 0);
        due("SEED 9999", Courts.of("court 9999 1 1 1 1;").now(2), 9999);
        Check.wrong("court 10000 1 1 1 1;", 6, 1);
        Check.wrong("court -1 1 1 1 1;", 6, 1);
    }

    private static void unsureRange() {
        Doc.says(TERMS, "1 to 20,");
        Check.wrong("court 1 0 1 1 1;", 8, 2);
        due("UNSURE 1", Courts.threeSixOne(1).pool(1), 3);
        due("UNSURE 20", Courts.threeSixOne(20).pool(1), 10);
        Check.wrong("court 1 21 1 1 1;", 8, 2);
        Check.wrong("court 1 9999 1 1 1;", 8, 2);
    }

    private static void evenRange() {
        Doc.says(TERMS, "20, 0 to 9,");
        Check.right("court 1 1 0 1 1;", 1);
        Check.right("court 1 1 9 1 1;", 1);
        Check.wrong("court 1 1 10 1 1;", 10, 2);
        Check.wrong("court 1 1 9999 1 1;", 10, 2);
        due("EVEN 0", tensionBehindOne("0 0 0"), 0);
        due("EVEN 9", tensionBehindOne("9 0 0"), 27);
    }

    private static void loadedRange() {
        Doc.says(TERMS, "20, 0 to 9, 0 to 9,");
        Check.right("court 1 1 1 0 1;", 1);
        Check.right("court 1 1 1 9 1;", 1);
        Check.wrong("court 1 1 1 10 1;", 12, 2);
        Check.wrong("court 1 1 1 9999 1;", 12, 2);
        due("LOADED 9", tensionBehindOne("0 9 0"), 27);
    }

    private static void chairRange() {
        Doc.says(TERMS, "20, 0 to 9, 0 to 9, 0 to 9).");
        Check.right("court 1 1 1 1 0;", 1);
        Check.right("court 1 1 1 1 9;", 1);
        Check.wrong("court 1 1 1 1 10;", 14, 2);
        Check.wrong("court 1 1 1 1 9999;", 14, 2);
        due("CHAIR 0", tensionBehindOne("0 1 0"), 3);
        due("CHAIR 9", tensionBehindOne("0 1 9"), 12);
    }

    /** Of the one bench of three judges, another case of weight 1 having it. */
    private static int tensionBehindOne(String evenLoadedChair) {
        BenchComposer x = Courts.of("court 1 1 " + evenLoadedChair + ";" + "judge 1;".repeat(3) + "case 1;case 1;");
        x.draw(0);
        return x.tension(1, 7);
    }

    private static void others() {
        Doc.says(TERMS, "The others:");
        Check.right(COURT + "senior 5;case 1;judge 5;case 1;judge 5;", 6);
        Check.wrong(COURT + "not 5;", 16, 1);
        Check.wrong(COURT + "5;", 16, 1);
        Check.wrong(COURT + "cases 1;", 16, 1);
        Check.wrong(COURT + "judg 1;", 16, 1);
        Check.wrong(COURT + "fudge 1;", 16, 1);
        Check.wrong(COURT + "base 1;", 16, 1);
        Check.wrong(COURT + "zenior 1;", 16, 1);
        Check.wrong(COURT + "senioy 1;", 16, 1);
        Check.wrong(COURT + "seniority 1;", 16, 1);
    }

    private static void seniorityRange() {
        Doc.says(TERMS, "'judge' SENIORITY (1 to 99;");
        due("SENIORITY 1", Courts.of(COURT + "judge 1;").judge(0, 0), 1);
        due("SENIORITY 99", Courts.of(COURT + "judge 99;").judge(0, 0), 99);
        Check.wrong(COURT + "judge 0;", 22, 2);
        Check.wrong(COURT + "judge 100;", 22, 2);
        Check.wrong(COURT + "judge;", 21, 1);
        Check.wrong(COURT + "judge 1 1;", 24, 1);
    }

    private static void nineJudges() {
        Doc.says(TERMS, "numbered from 0, 9 at most) |");
        BenchComposer x = Courts.of(COURT + "judge 11;judge 12;judge 13;judge 14;judge 15;judge 16;judge 17;judge 18;"
                + "judge 19;");
        due("judges", x.now(0), 9);
        for (int judge = 0; judge < 9; judge++) {
            due("judge(" + judge + ", 0)", x.judge(judge, 0), 11 + judge);
        }
        Check.judgeThrows(x, 9, 0);
        Check.wrong(COURT + "judge 5;".repeat(10), 88, 3);
        due("none at all", Courts.of(COURT).now(0), 0);
    }

    /** How many benches three judges of these seniorities make, with this line beside them. */
    private static int lawfulOf(String line, int a, int b, int c) {
        return Courts.of(COURT + line + "judge " + a + ";judge " + b + ";judge " + c + ";case 1;").lawful(0);
    }

    private static void seniorRange() {
        Doc.says(TERMS, "'senior' S (1 to 99;");
        Check.wrong(COURT + "senior 0;", 23, 2);
        Check.wrong(COURT + "senior 100;", 23, 2);
        Check.wrong(COURT + "senior;", 22, 1);
        Check.wrong(COURT + "senior 1 1;", 25, 1);
        due("S 1", lawfulOf("senior 1;", 1, 1, 1), 1);
        due("S 99, reached", lawfulOf("senior 99;", 1, 1, 99), 1);
        due("S 99, not reached", lawfulOf("senior 99;", 98, 98, 98), 0);
        BenchComposer x = Courts.like(3, 1);
        due("another TEXT", Check.tell(x, COURT + "judge 1;judge 1;judge 1;senior 2;case 1;"), 6);
        due("who was SENIOR in the TEXT ahead is not now", x.lawful(0), 0);
    }

    private static void seniorOnce() {
        Doc.says(TERMS, "once;");
        Check.right(COURT + "senior 5;", 2);
        Check.wrong(COURT + "senior 5;senior 5;", 25, 3);
        BenchComposer x = Courts.of(COURT + "senior 5;");
        due("once in each TEXT", Check.tell(x, COURT + "senior 5;"), 2);
    }

    private static void seniorWithout() {
        Doc.says(TERMS, "1 without) |");
        due("the least SENIORITY does", lawfulOf("", 1, 1, 1), 1);
        BenchComposer x = Courts.of(COURT + "senior 50;");
        due("another TEXT", Check.tell(x, COURT + "judge 1;judge 1;judge 1;case 1;"), 5);
        due("S of the TEXT ahead is gone", x.lawful(0), 1);
    }

    private static void caseLine() {
        Doc.says(TERMS, "'case' WEIGHT [ 'not' J { J } ]");
        String two = COURT + "judge 1;judge 1;";
        due("nobody", Courts.of(two + "case 1;").of(0, 1), 0);
        due("one J", Courts.of(two + "case 1 not 1;").of(0, 1), 2);
        due("two J", Courts.of(two + "case 1 not 1 0;").of(0, 1), 3);
        Check.wrong(two + "case;", 36, 1);
        Check.wrong(two + "case not 1;", 37, 1);
        Check.wrong(two + "case 1 not;", 42, 1);
        Check.wrong(two + "case 1 1;", 39, 1);
        Check.wrong(two + "case 1 not 1 not 0;", 45, 1);
        Check.wrong(two + "case 1 not not 0;", 43, 1);
        Check.wrong(two + "case 1 hot 0;", 39, 1);
        BenchComposer nine = Courts.of(COURT + "judge 1;".repeat(9) + "case 1 not 8 7 6 5 4 3 2 1 0;case 2;");
        due("all nine", nine.of(0, 1), 511);
        due("nobody, behind all nine", nine.of(1, 1), 0);
        due("another TEXT", Check.tell(nine, COURT + "judge 1;case 1;"), 3);
        due("nobody, though somebody in the TEXT ahead", nine.of(0, 1), 0);
    }

    private static void weightRange() {
        Doc.says(TERMS, "(WEIGHT 1 to 9;");
        due("WEIGHT 1", Courts.of(COURT + "case 1;").of(0, 0), 1);
        due("WEIGHT 9", Courts.of(COURT + "case 9;").of(0, 0), 9);
        Check.wrong(COURT + "case 0;", 21, 2);
        Check.wrong(COURT + "case 10;", 21, 2);
    }

    private static void barredToldAhead() {
        Doc.says(TERMS, "J judges told ahead,");
        Check.right(COURT + "judge 1;case 1 not 0;judge 1;case 1 not 1;", 5);
        Check.wrong(COURT + "judge 1;case 1 not 1;judge 1;", 35, 4);
        Check.wrong(COURT + "case 1 not 0;judge 1;", 27, 4);
        // Judges of the TEXT ahead are not told in this one.
        BenchComposer x = Courts.of(COURT + "judge 1;judge 1;");
        due("another TEXT", Check.tell(x, COURT + "judge 1;case 1 not 1;"), -36);
    }

    private static void barredNoTwoAlike() {
        Doc.says(TERMS, "no two alike;");
        String two = COURT + "judge 1;judge 1;";
        Check.wrong(two + "case 1 not 0 0;", 45, 4);
        Check.wrong(two + "case 1 not 0 1 0;", 47, 4);
        Check.wrong(two + "case 1 not 1 0001;", 45, 4);
        Check.right(two + "case 1 not 0 1;case 1 not 0 1;", 5);
    }

    private static void fourteenCases() {
        Doc.says(TERMS, "numbered from 0, 14 at most).");
        String[] weights = "12345678987654".split("");
        StringBuilder text = new StringBuilder(COURT);
        for (String weight : weights) {
            text.append("case ").append(weight).append(';');
        }
        BenchComposer x = Courts.of(text.toString());
        due("cases", x.now(1), 14);
        for (int one = 0; one < 14; one++) {
            due("of(" + one + ", 0)", x.of(one, 0), Integer.parseInt(weights[one]));
        }
        Check.ofThrows(x, 14, 0);
        Check.wrong(text + "case 1;", 114, 3);
        due("none at all", Courts.of(COURT).now(1), 0);
    }

    // faults

    private static void firstAlongTheText() {
        Doc.says(TERMS, "FAULTS, the first along the text,");
        Check.wrong(COURT + "judge 0;judge 00000;", 22, 2);
        Check.wrong(COURT + "judge 00000;judge 0;", 22, 1);
        Check.wrong(COURT + "case 1 not 0;case 0;", 27, 4);
        Check.wrong(COURT + "case 0 not 0;", 21, 2);
        Check.wrong(COURT + "senior 1;senior 0;#", 25, 3);
        Check.wrong("court 1 0 10 10 10;", 8, 2);
        Check.wrong(COURT + "judge 5 #", 24, 1);
    }

    private static void leastOfOneToken() {
        Doc.says(TERMS, "of one TOKEN the least:");
        // More than four digits, and not as told: no TOKEN.
        Check.wrong(COURT + "judge 10000;", 22, 1);
        Check.wrong(COURT + "case 1 not 10000;", 27, 1);
        Check.wrong(COURT + "judge 1;case 1 not 0 00000;", 37, 1);
        // A NUMBER that can't come, whatever it is.
        Check.wrong(COURT + "judge 1 0;", 24, 1);
        Check.wrong(COURT + "case 1 0;", 23, 1);
    }

    private static void cannotCome() {
        Doc.says(TERMS, "1 no TOKEN, or one that can't come (at it;");
        Check.wrong("  #", 2, 1);
        Check.wrong("court 1 1 #;", 10, 1);
        Check.wrong("court 1 1 court;", 10, 1);
        Check.wrong("court 1 1 ;", 10, 1);
        Check.wrong("court  1  1  12345;", 13, 1);
        Check.wrong(COURT + "  7;", 18, 1);
        Check.wrong(COURT + "judge  judge;", 23, 1);
        Check.wrong(COURT + "judge 1  senior 1;", 25, 1);
        Check.wrong(COURT + "case 1  nor;", 24, 1);
    }

    private static void atTheEnd() {
        Doc.says(TERMS, "the end: how many bytes there are;");
        // Cut behind any byte it lacks something, there or, of a WORD's part, at the WORD.
        for (int n = 1; n < COURT.length(); n++) {
            Check.wrong(COURT.substring(0, n), n < 5 ? 0 : n, 1);
        }
        Check.wrong("court   ", 8, 1);
        Check.wrong(COURT + "judge", 21, 1);
        Check.wrong(COURT + "senior\n", 23, 1);
        Check.wrong(COURT + "case", 20, 1);
        Check.wrong(COURT + "case 1", 22, 1);
        Check.wrong(COURT + "judge 1;case 1 not", 34, 1);
        Check.wrong(COURT + "judge 1;case 1 not 0", 36, 1);
        Check.wrong(" ".repeat(495) + "court", 500, 1);
    }

    private static void numberNotAsTold() {
        Doc.says(TERMS, "2 a NUMBER that is not as told (at it;");
        Check.wrong("court  1  0 1 1 1;", 10, 2);
        Check.wrong("court 1 1  0010 1 1;", 11, 2);
        Check.wrong(COURT + "judge  0100;", 23, 2);
        Check.wrong(COURT + "judge 0", 22, 2);
        Check.wrong(COURT + "senior  000;", 24, 2);
        Check.wrong(COURT + "case  0;", 22, 2);
    }

    private static void numberOfJ() {
        Doc.says(TERMS, "of J: 4);");
        Check.wrong(COURT + "judge 1;case 1 not 9999;", 35, 4);
        Check.wrong(COURT + "judge 1;case 1 not 0 0010;", 37, 4);
    }

    private static void tenthJudge() {
        Doc.says(TERMS, "3 a tenth judge,");
        String nine = COURT + "judge 5;".repeat(9);
        Check.right(nine, 10);
        Check.wrong(nine + "  judge 5;", 90, 3);
        Check.wrong(nine + "judge 0;", 88, 3);
        Check.wrong(nine + "judge", 88, 3);
        Check.wrong(nine + "judges 5;", 88, 1);
    }

    private static void secondSenior() {
        Doc.says(TERMS, "a second senior,");
        Check.wrong(COURT + "senior 5; senior 6;", 26, 3);
        Check.wrong(COURT + "senior 5;judge 1;senior", 33, 3);
        Check.wrong(COURT + "senior 1;senior 1;", 25, 3);
    }

    private static void fifteenthCase() {
        Doc.says(TERMS, "a fifteenth case (at the WORD);");
        String fourteen = COURT + "case 5;".repeat(14);
        Check.right(fourteen, 15);
        Check.wrong(fourteen + "\ncase 5;", 115, 3);
        Check.wrong(fourteen + "case 0;", 114, 3);
        Check.wrong(fourteen + "case", 114, 3);
        Check.right(fourteen + "judge 5;", 16);
    }

    private static void notTold() {
        Doc.says(TERMS, "4 a J that is not told,");
        Check.wrong(COURT + "case 1 not  0;", 28, 4);
        Check.wrong(COURT + "judge 1;case 1 not 1;", 35, 4);
        Check.wrong(COURT + "judge 1;".repeat(9) + "case 1 not 9;", 99, 4);
        Check.wrong(COURT + "judge 1;".repeat(9) + "case 1 not 8 32;", 101, 4);
    }

    private static void toldAlready() {
        Doc.says(TERMS, "or told already in this LINE (at it).");
        String nine = COURT + "judge 1;".repeat(9);
        Check.wrong(nine + "case 1 not 0  0;", 102, 4);
        Check.wrong(nine + "case 1 not 8 8;", 101, 4);
        Check.wrong(nine + "case 1 not 0 1 2 3 4 5 6 7 8 0;", 117, 4);
        Check.right(nine + "case 1 not 8;case 1 not 8;", 12);
    }

    // texts of more than 500 bytes

    /** COURT and blanks, so many bytes together. */
    private static String blanksTo(int place) {
        return COURT + " ".repeat(place - COURT.length());
    }

    private static void moreThan500() {
        Doc.says(TERMS, "500, if there are more");
        Check.right(blanksTo(500), 1);
        Check.wrong(blanksTo(501), 500, 1);
        Check.wrong(blanksTo(540), 500, 1);
        Check.wrong(" ".repeat(540), 500, 1);
        Check.wrong(blanksTo(500) + "judge 5;", 500, 1);
        Check.wrong(blanksTo(500) + "#", 500, 1);
        Check.wrong(blanksTo(520) + "#", 500, 1);
        Check.wrong(blanksTo(490) + "judge 5;   judge 0;", 500, 1);
        // Begun, not ended: what comes behind 500 is not looked at.
        Check.wrong(blanksTo(494) + "judge  5;", 500, 1);
        Check.wrong(blanksTo(490) + "judge     #", 500, 1);
        Check.wrong(blanksTo(490) + "judge     0;", 500, 1);
    }

    private static void noFaultAhead() {
        Doc.says(TERMS, "and no FAULT is ahead:");
        Check.wrong("#" + " ".repeat(539), 0, 1);
        Check.wrong(" ".repeat(499) + "#" + " ".repeat(40), 499, 1);
        Check.wrong(COURT + "judge 0;" + " ".repeat(510), 22, 2);
        Check.wrong(COURT + "senior 1;senior 1;" + " ".repeat(500), 25, 3);
        Check.wrong(COURT + "case 1 not 0;" + " ".repeat(500), 27, 4);
        Check.wrong(blanksTo(499) + "; ", 499, 1);
    }

    private static void readWhole() {
        Doc.says(TERMS, "TOKENS that begin ahead of it are read whole);");
        Check.wrong(blanksTo(499) + "judge 0;", 500, 1);
        Check.wrong(blanksTo(499) + "judgx 0;", 499, 1);
        Check.wrong(blanksTo(495) + "judgesx;", 495, 1);
        Check.wrong(blanksTo(493) + "judge 99;", 500, 1);
        Check.wrong(blanksTo(490) + "judge    99;", 500, 1);
        Check.wrong(blanksTo(490) + "judge    990;", 499, 2);
        Check.wrong(blanksTo(490) + "judge    00099;", 499, 1);
        Check.wrong(blanksTo(490) + "judge    9x;", 499, 1);
        Check.wrong(COURT + "senior 1;" + " ".repeat(474) + "senior 1;", 499, 3);
        Check.wrong(COURT + "judge 1;".repeat(9) + "case 1 not" + " ".repeat(401) + "10;", 499, 4);
        Check.wrong(COURT + "judge 1;".repeat(9) + "case 1 not" + " ".repeat(401) + "08;", 500, 1);
        Check.wrong("7".repeat(540), 0, 1);
    }

    // promises 1 to 5

    private static void newObject() {
        Doc.says("Promise 1", "No court (UNSURE 0), no judges, no cases; an empty tape.");
        BenchComposer x = new BenchComposer();
        for (int what = 0; what <= 6; what++) {
            due("now(" + what + ")", x.now(what), 0);
        }
        Check.judgeThrows(x, 0, 0);
        Check.ofThrows(x, 0, 0);
        due("pair(0, 1)", x.pair(0, 1), -1);
        due("spread(0)", x.spread(0), -1);
        due("spread(1)", x.spread(1), -1);
        due("lawful(0)", x.lawful(0), -1);
        due("bench(0, 0)", x.bench(0, 0), -1);
        due("rank(0, 7)", x.rank(0, 7), -1);
        due("tension(0, 7)", x.tension(0, 7), -1);
        due("pool(0)", x.pool(0), -1);
        due("chances(0, 0)", x.chances(0, 0), -1);
        due("worst(0)", x.worst(0), -1);
        due("draw(0)", x.draw(0), -1);
        due("drawAll()", x.drawAll(), 0);
        due("recuse(0, 0)", x.recuse(0, 0), -1);
        due("leave(0)", x.leave(0), -1);
        due("come(0)", x.come(0), -1);
        due("hear(0)", x.hear(0), -1);
        due("evenness()", x.evenness(), 0);
        due("better(0)", x.better(0), -1);
        due("exchange(0, 0, 1, 1)", x.exchange(0, 0, 1, 1), -1);
        due("smooth()", x.smooth(), -1);
        due("same()", x.same(), 0);
        due("anew(0)", x.anew(0), -1);
        due("undo()", x.undo(), -1);
        Check.due("end(0)", x.end(0), true);
        Check.due("end(1)", x.end(1), false);
        due("text()", x.text(), 0);
    }

    private static void twentyBytes() {
        Doc.says("Promise 2", "Twenty bytes come behind the tape, of each number the highest first: how many it has;");
        BenchComposer x = new BenchComposer();
        // 'cour' 't 12' '34 7' ' 1 2' ' 3;j'
        due("feed", x.feed(0x636f7572, 0x74203132, 0x33342037, 0x20312032, 0x20333b6a), 20);
        // 'udge' ' 42;' '    ' '    ' '    '
        due("feed", x.feed(0x75646765, 0x2034323b, 0x20202020, 0x20202020, 0x20202020), 40);
        due("text()", x.text(), 2);
        due("SEED", x.now(2), 1234);
        due("SENIORITY", x.judge(0, 0), 42);
        // Every byte counts, zeros and those above 127, too.
        due("feed", x.feed(0, -1, MIN, MAX, 0x80ff0001), 20);
        due("no TOKEN", x.text(), -1);
        due("behind the 3 that are left", feedBehind(3), 23);
    }

    private static int feedBehind(int n) {
        BenchComposer x = new BenchComposer();
        x.feed(1, 2, 3, 4, 5);
        x.end(n);
        return x.feed(1, 2, 3, 4, 5);
    }

    private static void moreThan540() {
        Doc.says("Promise 2", "NONE, and none come, if it would have more than 540.");
        BenchComposer x = new BenchComposer();
        for (int n = 20; n <= 540; n += 20) {
            due("feed to " + n, x.feed(0x20202020, 0x20202020, 0x20202020, 0x20202020, 0x20202020), n);
        }
        due("feed to 560", x.feed(0x23232323, 0, 0, 0, 0), -1);
        due("bytes of the tape", x.now(6), 540);
        x.end(521);
        due("feed to 541", x.feed(0x23232323, 0, 0, 0, 0), -1);
        due("bytes of the tape", x.now(6), 521);
        x.end(520);
        due("feed to 540", x.feed(0x20202020, 0x20202020, 0x20202020, 0x20202020, 0x20202020), 540);
        x.end(500);
        due("none came", x.text(), 0);
    }

    private static void firstBytesAlone() {
        Doc.says("Promise 3", "The tape has its first n bytes alone: true;");
        BenchComposer x = new BenchComposer();
        Check.due("end(0) of none", x.end(0), true);
        Check.bring(x, COURT + "judge 5;");
        Check.due("end(24) of 24", x.end(24), true);
        due("bytes of the tape", x.now(6), 24);
        Check.due("end(16)", x.end(16), true);
        due("bytes of the tape", x.now(6), 16);
        due("the first alone", x.text(), 1);
        due("no judge", x.now(0), 0);
        // A NUMBER and a WORD end where the tape does.
        Check.bring(x, "court 12345");
        x.end(10);
        due("NUMBER cut", x.text(), -11);
        Check.bring(x, COURT + "judgement");
        x.end(21);
        due("WORD cut", x.text(), -22);
        Check.bring(x, COURT);
        Check.due("end(0) of some", x.end(0), true);
        due("bytes of the tape", x.now(6), 0);
    }

    private static void notSoMany() {
        Doc.says("Promise 3", "false, if it has not so many,");
        BenchComposer x = new BenchComposer();
        Check.due("end(1) of none", x.end(1), false);
        x.feed(1, 2, 3, 4, 5);
        Check.due("end(21)", x.end(21), false);
        Check.due("end(MAX)", x.end(MAX), false);
        due("bytes of the tape", x.now(6), 20);
        x.end(7);
        Check.due("those cut off are gone", x.end(8), false);
        due("bytes of the tape", x.now(6), 7);
    }

    private static void below0() {
        Doc.says("Promise 3", "or n is below 0.");
        BenchComposer x = new BenchComposer();
        Check.due("end(-1) of none", x.end(-1), false);
        x.feed(1, 2, 3, 4, 5);
        Check.due("end(-1)", x.end(-1), false);
        Check.due("end(MIN)", x.end(MIN), false);
        due("bytes of the tape", x.now(6), 20);
    }

    private static void emptyThen() {
        Doc.says("Promise 4", "The tape (empty then, even with a FAULT)");
        BenchComposer x = new BenchComposer();
        Check.bring(x, COURT);
        due("text()", x.text(), 1);
        due("bytes of the tape", x.now(6), 0);
        Check.bring(x, "#");
        due("a FAULT", x.text(), -1);
        due("bytes of the tape", x.now(6), 0);
        Check.due("end(1)", x.end(1), false);
        due("the next comes from the first byte on", x.feed(0, 0, 0, 0, 0), 20);
    }

    private static void anEmptyText() {
        Doc.says("Promise 4", "is a TEXT (an empty one: no court):");
        BenchComposer x = Courts.threeDrawn(1);
        due("text()", x.text(), 0);
        for (int what = 0; what <= 6; what++) {
            due("now(" + what + ")", x.now(what), 0);
        }
        due("lawful(0)", x.lawful(0), -1);
        due("anew(0)", x.anew(0), -1);
        due("pair(0, 1)", x.pair(0, 1), -1);
        due("evenness()", x.evenness(), 0);
        due("same()", x.same(), 0);
        due("undo()", x.undo(), -1);
        Check.judgeThrows(x, 0, 0);
        Check.ofThrows(x, 0, 0);
    }

    private static void howManyLines() {
        Doc.says("Promise 4", "how many LINES;");
        BenchComposer x = Courts.of(COURT + "judge 5;");
        due("each TEXT by itself", Check.tell(x, COURT), 1);
        due("none", x.text(), 0);
        due("the most", Check.tell(x, COURT + "judge 5;".repeat(9) + "senior 5;" + "case 1;".repeat(14)), 25);
    }

    private static void placeOfAFault() {
        Doc.says("Promise 4", "-1 less the place of a FAULT: all stays.");
        BenchComposer x = Courts.threeDrawn(1);
        x.leave(0);
        x.hear(2);
        String[] texts = {"#", COURT + "judge 5", COURT + "judge 7;judge 0;", COURT + "senior 1;senior 2;",
            COURT + "judge 9;case 3 not 1;", " ".repeat(501)};
        int[] places = {0, 23, 30, 25, 35, 500};
        String before = Courts.seen(x);
        int anew = x.anew(3);
        for (int i = 0; i < texts.length; i++) {
            due("text: " + texts[i], Check.tell(x, texts[i]), -1 - places[i]);
        }
        String behind = Courts.seen(x);
        // Only fault() tells another answer, as promised.
        due("all stays", before.replaceFirst(" 0\n", " 1\n").equals(behind) ? 1 : 0, 1);
        due("anew(3)", x.anew(3), anew);
        due("undo()", x.undo(), 4);
    }

    private static void latestFault() {
        Doc.says("Promise 5", "The kind of the FAULT of the latest text();");
        BenchComposer x = new BenchComposer();
        String[] texts = {"#", COURT + "judge 0;", COURT + "senior 1;senior 1;", COURT + "case 1 not 0;"};
        for (int i = 0; i < texts.length; i++) {
            Check.tell(x, texts[i]);
            due("fault() of " + texts[i], x.fault(), i + 1);
            due("asked again", x.fault(), i + 1);
        }
        Check.bring(x, "#");
        due("of the latest yet", x.fault(), 4);
        x.text();
        due("of another one", x.fault(), 1);
    }

    private static void withoutFault() {
        Doc.says("Promise 5", "0 without one and ahead of any.");
        BenchComposer x = new BenchComposer();
        due("ahead of any", x.fault(), 0);
        x.feed(0, 0, 0, 0, 0);
        due("ahead of any, with a tape", x.fault(), 0);
        x.text();
        due("a FAULT", x.fault(), 1);
        Check.tell(x, COURT);
        due("without one", x.fault(), 0);
        Check.tell(x, "#");
        x.text();
        due("an empty one", x.fault(), 0);
    }
}
