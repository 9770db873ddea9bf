/** Which forms are candidates, what they score, which one is the match: "Terms" and promises 17 to 20. */
public final class MatchTest {
    private static final Check CHECK = new Check();
    private static final int WIDE = 1000000;

    public static void main(String[] args) {
        CHECK.holds("IONS ...: its first i letters weigh so much, and PROTON", MatchTest::firstLetters);
        CHECK.holds("IONS ...: its last i letters, and WATER and PROTON", MatchTest::lastLetters);
        CHECK.holds("IONS ... for i = 1 .. n - 1", MatchTest::noIons);
        CHECK.holds("IONS of a form with n letters: of one letter", MatchTest::oneLetter);
        CHECK.holds("IONS of a form with n letters: of thirty", MatchTest::thirtyLetters);
        CHECK.holds("(with changes)", MatchTest::changedIons);
        CHECK.holds("(with changes): ions of less than 0", MatchTest::lightIons);
        CHECK.holds("(with changes): where one of them alone makes a form that is none", MatchTest::goodByBoth);
        CHECK.holds("at most MOST of them, are CHANGED: one search after another", MatchTest::fewerChanges);
        CHECK.holds("CANDIDATES are forms of peptides, of proteins and turned ones", MatchTest::bothWays);
        CHECK.holds("1000000 * |d| is at most PARTS times the spectrum's mass", MatchTest::massWindow);
        CHECK.holds("1000000 * |d| is at most ...: great masses", MatchTest::greatMasses);
        CHECK.holds("1000000 * |d| is at most ...: small masses", MatchTest::smallMasses);
        CHECK.holds("1000000 * |d| is at most ...: PARTS is 0", MatchTest::thatVeryMass);
        CHECK.holds("(none if that is not above 0)", MatchTest::noMass);
        CHECK.holds("The SCORE of one is how many of its ions have a PEAK", MatchTest::ionsNotPeaks);
        CHECK.holds("The SCORE ...: all 40 peaks count", MatchTest::allPeaks);
        CHECK.holds("a PEAK that is at most NEAR away", MatchTest::nearness);
        CHECK.holds("THE MATCH is the candidate with the greatest score", MatchTest::greatest);
        CHECK.holds("THE MATCH is the candidate: of forms that are none of it", MatchTest::onlyCandidates);
        CHECK.holds("if that is not 0", MatchTest::notZero);
        CHECK.holds("of several one of a protein, before one of a turned one", MatchTest::proteinFirst);
        CHECK.holds("then of the least number of the protein", MatchTest::leastNumber);
        CHECK.holds("the least number of the protein: of turned ones", MatchTest::leastNumberTurned);
        CHECK.holds("the least begin", MatchTest::leastBegin);
        CHECK.holds("the fewest letters", MatchTest::fewestLetters);
        CHECK.holds("then the first by its letters from the left", MatchTest::firstByLetters);
        CHECK.holds("(one that is not changed before change 0", MatchTest::notChangedFirst);
        CHECK.holds("that before change 1, and so on)", MatchTest::leastChange);
        CHECK.holds("search: how many have one", MatchTest::howManyMatch);
        CHECK.holds("candidates: How many candidates a spectrum has", MatchTest::howManyCandidates);
        CHECK.holds("match: its score, protein, 1 if it is turned, else 0, begin, letters", MatchTest::allOfMatch);
        CHECK.holds("changed: The change of letter i; NONE if it is not changed", MatchTest::changeOfLetters);
        CHECK.end();
    }

    private static PeptideSearch made(String proteins, String... spectra) {
        PeptideSearch x = Check.withLetters();
        Check.proteins(x, proteins);
        Check.spectra(x, String.join("", spectra));
        return x;
    }

    /** All forms are candidates, so that only scores and what goes first among them matter. */
    private static PeptideSearch wide(String proteins, String... peaks) {
        PeptideSearch x = made(proteins, Check.spectrum("1000", 1, peaks));
        x.windows(WIDE, 0);
        return x;
    }

    private static void match(String what, PeptideSearch x, int... want) {
        CHECK.throwing(what + ": has a match", "nothing", () -> x.match(0, 0));
        String[] parts = {"score", "protein", "turned", "begin", "letters"};
        for (int k = 0; k < want.length && Check.thrownBy(() -> x.match(0, 0)).equals("nothing"); k++) {
            CHECK.due(what + ": " + parts[k], x.match(0, k), want[k]);
        }
    }

    private static void changes(String what, PeptideSearch x, int... want) {
        for (int i = 0; i < want.length; i++) {
            CHECK.due(what + ": letter " + i, x.changed(0, i), want[i]);
        }
        CHECK.throwing(what + ": behind the last letter", Check.INDEX, () -> x.changed(0, want.length));
    }

    /** ABC: 11 and 31 from the front, 49 and 69 from the back; CBA: 31, 51, 29, 49. */
    private static void oneIon(String peak, int turned) {
        PeptideSearch x = made(">n\nABC\n", Check.spectrum("79", 1, peak));
        x.search();
        match("peak " + peak, x, 1, 0, turned, 0, 3);
    }

    private static void firstLetters() {
        oneIon("11", 0);
        oneIon("31", 0);
        oneIon("51", 1);
    }

    private static void lastLetters() {
        oneIon("49", 0);
        oneIon("69", 0);
        oneIon("29", 1);
    }

    private static void noIons() {
        String[] none = {"0", "1", "18", "19", "60", "61", "78", "79", "80", "10", "30", "48", "68", "12", "32", "50"};
        PeptideSearch x = made(">n\nABC\n", Check.spectrum("79", 1, none));
        CHECK.due("none of all letters, of no letter, without a proton", x.search(), 0);
        CHECK.due("candidates", x.candidates(0), 2);
        PeptideSearch two = made(">n\nAB\n", Check.spectrum("49", 1, "11", "39", "21", "29", "1", "19", "31", "49"));
        two.search();
        match("two letters", two, 2, 0, 0, 0, 2);
    }

    private static void oneLetter() {
        PeptideSearch x = made(">n\nA\n", Check.spectrum("29", 1, "1", "11", "19", "29", "28", "10"));
        x.windows(0, 1000000000);
        CHECK.due("no ions", x.search(), 0);
        CHECK.due("a candidate", x.candidates(0), 2);
    }

    /** Z weighs 1,000: a peak of 1000 * i + 10 is 9 away from the ion of the first i and from that of the last i. */
    private static void thirtyLetters() {
        String[] peaks = new String[29];
        for (int i = 1; i <= 29; i++) {
            peaks[i - 1] = String.valueOf(1000 * i + 10);
        }
        PeptideSearch x = made(">n\n" + Check.repeated("Z", 30) + "\n", Check.spectrum("30019", 1, peaks));
        x.letter(25, 1000000000, false, false);
        x.windows(0, 9000000);
        x.search();
        match("all ions", x, 58, 0, 0, 0, 30);
        x.windows(0, 8999999);
        CHECK.due("none is near", x.search(), 0);
    }

    /** AB with B changed by 5: 11 and 44 with it; AB with A changed: 16 and 39; with both 16 and 44. */
    private static void changedIons() {
        PeptideSearch x = made(">n\nAB\n", Check.spectrum("54", 1, "11", "44"));
        x.change(1, 1, 5000000);
        x.limits(0, 1);
        x.search();
        match("the last letter", x, 2, 0, 0, 0, 2);
        changes("the last letter", x, -1, 1);
        PeptideSearch y = made(">n\nAB\n", Check.spectrum("54", 1, "16", "39"));
        y.change(1, 0, 5000000);
        y.limits(0, 1);
        y.search();
        match("the first letter", y, 2, 0, 0, 0, 2);
        changes("the first letter", y, 1, -1);
        PeptideSearch z = made(">n\nAB\n", Check.spectrum("61", 1, "16", "46"));
        z.change(1, 0, 5000000);
        z.change(3, 1, 7000000);
        z.limits(0, 2);
        z.search();
        match("both letters", z, 2, 0, 0, 0, 2);
        changes("both letters", z, 1, 3);
        betweenChanges();
    }

    /** ABCAB with both As changed by 5: 16 36 66 81 from the front, 39 54 84 104 from the back. */
    private static void betweenChanges() {
        String[] ions = {"16", "36", "66", "81", "39", "54", "84", "104"};
        PeptideSearch x = made(">n\nABCAB\n", Check.spectrum("119", 1, ions));
        x.change(0, 0, 5000000);
        x.limits(0, 2);
        x.search();
        match("ions before, between and behind", x, 8, 0, 0, 0, 5);
        changes("ions before, between and behind", x, 0, -1, -1, 0, -1);
    }

    /** Of the turned BA with A changed by -40: 21 and -11. */
    private static void lightIons() {
        PeptideSearch x = made(">n\nAB\n", Check.spectrum("9", 1, "0"));
        x.change(0, 0, -40000000);
        x.limits(0, 1);
        x.windows(0, 11000000);
        x.search();
        match("an ion of -11", x, 1, 0, 1, 0, 2);
        x.windows(0, 10999999);
        CHECK.due("it is farther away", x.search(), 0);
    }

    /** EAB with E changed by 1000 and A by -1000: 1051 and 61 from the front, 39 from the back; without changes 51. */
    private static void goodByBoth() {
        PeptideSearch x = made(">n\nEAB\n", Check.spectrum("99", 1, "1051", "61", "39"));
        x.limits(0, 2);
        x.change(0, 0, -1000000000);
        x.change(2, 4, 1000000000);
        CHECK.due("forms", x.peptide(0, false, 0, 2), 3);
        x.search();
        CHECK.due("candidates", x.candidates(0), 4);
        match("both changes", x, 3, 0, 0, 0, 3);
        changes("both changes", x, 2, 0, -1);
    }

    /** ABC with A changed: 16 36 49 69; with C changed: 11 31 56 76; with both: 16 36 56 76; without: 11 31 49 69. */
    private static void fewerChanges() {
        PeptideSearch x = wide(">n\nABC\n", "16", "36", "56", "76", "31");
        x.change(0, 0, 5000000);
        x.change(1, 2, 7000000);
        int[] scores = {1, 3, 4};
        int[][] want = {{-1, -1, -1}, {-1, -1, 1}, {0, -1, 1}};
        for (int most : new int[] {2, 1, 0, 2, 0}) {
            x.limits(0, most);
            x.search();
            match("MOST " + most, x, scores[most], 0, 0, 0, 3);
            changes("MOST " + most, x, want[most]);
        }
    }

    private static void bothWays() {
        PeptideSearch x = made(">n\nABA\n>m\nC\n", Check.spectrum("59", 1) + Check.spectrum("49", 1));
        x.search();
        CHECK.due("the same turned counts, too", x.candidates(0), 2);
        CHECK.due("of another protein", x.candidates(1), 2);
        PeptideSearch y = made(">n\nABKC\n", Check.spectrum("109", 1) + Check.spectrum("109.5", 1)
            + Check.spectrum("49", 1));
        y.search();
        CHECK.due("ABK, and CK turned", y.candidates(0), 2);
        CHECK.due("none of that mass", y.candidates(1), 0);
        CHECK.due("C, and BA turned", y.candidates(2), 2);
    }

    /** A form of 78; at 10 millionths spectra of 78.00078 to 77.999221 are near enough: their own masses count. */
    private static void massWindow() {
        String[] masses = {"79", "79.000780", "79.000781", "78.999221", "78.999220"};
        int[] want = {2, 2, 0, 2, 0};
        for (int k = 0; k < masses.length; k++) {
            PeptideSearch x = made(">n\nABC\n", Check.spectrum(masses[k], 1));
            x.windows(10, 0);
            x.search();
            CHECK.due("candidates at " + masses[k], x.candidates(0), want[k]);
        }
        String[] apart = {"80", "80", "78", "78"};
        int[] parts = {12658, 12659, 12987, 12988};
        for (int k = 0; k < parts.length; k++) {
            PeptideSearch x = made(">n\nABC\n", Check.spectrum(apart[k], 1));
            x.windows(parts[k], 0);
            x.search();
            CHECK.due("candidates at " + apart[k] + ", " + parts[k], x.candidates(0), k % 2 == 0 ? 0 : 2);
        }
    }

    private static void greatMasses() {
        PeptideSearch x = made(">n\nABC\n", Check.spectrum("99999.999999", 5));
        x.windows(999843, 0);
        x.search();
        CHECK.due("the greatest mass, too far", x.candidates(0), 0);
        x.windows(999844, 0);
        x.search();
        CHECK.due("the greatest mass", x.candidates(0), 2);
        PeptideSearch y = made(">n\n" + Check.repeated("Z", 30) + "\n", Check.spectrum("15510.0", 1)
            + Check.spectrum("15509.999999", 1));
        y.letter(25, 1000000000, false, false);
        y.extras(1000000000, 10000000);
        y.windows(1000000, 0);
        y.search();
        CHECK.due("the heaviest form, twice the mass", y.candidates(0), 2);
        CHECK.due("the heaviest form, more than that", y.candidates(1), 0);
        y.change(0, 25, 1000000000);
        y.limits(0, 2);
        Check.spectra(y, Check.spectrum("33010", 1) + Check.spectrum("33010.000001", 1));
        y.windows(0, 0);
        y.search();
        CHECK.due("the heaviest form, changed twice", y.candidates(0), 2 * 435);
        CHECK.due("a millionth more", y.candidates(1), 0);
    }

    /** Forms of 1 and 2 millionths, spectra of 1, 2 and 3. */
    private static void smallMasses() {
        PeptideSearch x = made(">n\nA\n>m\nB\n", Check.spectrum("1.000001", 1) + Check.spectrum("1.000002", 1)
            + Check.spectrum("1.000003", 1));
        x.letter(0, 1, false, false);
        x.letter(1, 2, false, false);
        x.extras(0, 1000000);
        int[] parts = {0, 333333, 333334, 499999, 500000, 666666, 666667, 999999, 1000000};
        int[][] want = {
            {2, 2, 0}, {2, 2, 0}, {2, 2, 2}, {2, 2, 2}, {2, 4, 2}, {2, 4, 2}, {2, 4, 4}, {2, 4, 4}, {4, 4, 4},
        };
        for (int k = 0; k < parts.length; k++) {
            x.windows(parts[k], 0);
            x.search();
            for (int s = 0; s < 3; s++) {
                CHECK.due("candidates of " + (s + 1) + " at " + parts[k], x.candidates(s), want[k][s]);
            }
        }
    }

    private static void thatVeryMass() {
        PeptideSearch x = made(">n\nABC\n", Check.spectrum("79", 1), Check.spectrum("79.000001", 1),
            Check.spectrum("78.999999", 1), Check.spectrum("40", 2), Check.spectrum("16.6", 5));
        x.search();
        int[] want = {2, 0, 0, 2, 2};
        for (int s = 0; s < want.length; s++) {
            CHECK.due("candidates of " + s, x.candidates(s), want[s]);
        }
    }

    /** Masses of 0 and less have none, one of 1 millionth has: the form weighs that. A form of 0 is none. */
    private static void noMass() {
        PeptideSearch x = made(">n\nAA\n", Check.spectrum("1", 1, "1"), Check.spectrum("1", 5, "1"),
            Check.spectrum("0.999999", 1, "1"), Check.spectrum("0", 5, "1"), Check.spectrum("1.000001", 1, "1"));
        x.letter(0, 1, false, false);
        x.extras(0, 1000000);
        x.limits(0, 2);
        x.change(0, 0, -1);
        x.change(1, 0, -2);
        int[] want = {0, 0, 0, 0, 4};
        for (int parts : new int[] {0, 1, 999999}) {
            x.windows(parts, 1000000000);
            CHECK.due("search with " + parts, x.search(), 1);
            for (int s = 0; s < want.length; s++) {
                CHECK.due("candidates of " + s + " with " + parts, x.candidates(s), want[s]);
            }
        }
        x.windows(WIDE, 1000000000);
        CHECK.due("search with all parts", x.search(), 1);
        CHECK.due("a mass of 0", x.candidates(0), 0);
        CHECK.due("a mass of less", x.candidates(3), 0);
        CHECK.due("a mass of 1", x.candidates(4), 2 * (2 + 1));
        CHECK.throwing("no match of 0", Check.ELEMENT, () -> x.match(0, 0));
        CHECK.throwing("no match of less", Check.ELEMENT, () -> x.match(2, 0));
    }

    private static int score(int near, String... peaks) {
        PeptideSearch x = made(">n\nABC\n", Check.spectrum("79", 1, peaks));
        x.windows(0, near);
        return x.search() == 0 ? 0 : x.match(0, 0);
    }

    private static void ionsNotPeaks() {
        CHECK.due("no peaks", score(1000000000), 0);
        CHECK.due("one ion", score(0, "11"), 1);
        CHECK.due("two peaks of one ion", score(500000, "11", "11.1"), 1);
        CHECK.due("a peak twice", score(0, "11", "11"), 1);
        CHECK.due("one peak of two ions", score(10000000, "21"), 2);
        CHECK.due("one peak of all ions", score(1000000000, "0"), 4);
        CHECK.due("all ions", score(0, "69", "49", "31", "11"), 4);
        CHECK.due("and other peaks", score(0, "70", "69", "50", "49", "32", "31", "12", "11", "10", "0"), 4);
        PeptideSearch equal = made(">n\nAA\n", Check.spectrum("21", 1, "11"));
        equal.extras(0, 1000000);
        equal.search();
        match("equal ions count twice", equal, 2, 0, 0, 0, 2);
    }

    private static void allPeaks() {
        String[] peaks = new String[40];
        for (int at : new int[] {0, 20, 39}) {
            java.util.Arrays.fill(peaks, "3");
            peaks[at] = "69";
            CHECK.due("peak " + at + " of 40, others before it", score(0, peaks), 1);
            java.util.Arrays.fill(peaks, "100");
            peaks[at] = "11";
            CHECK.due("peak " + at + " of 40, others behind it", score(0, peaks), 1);
        }
        java.util.Arrays.fill(peaks, "3");
        CHECK.due("none of 40", score(0, peaks), 0);
        java.util.Arrays.fill(peaks, "69");
        PeptideSearch x = made(">n\nABC\n", Check.spectrum("79", 1, peaks));
        CHECK.due("40 of one ion", x.search(), 1);
        Check.spectra(x, Check.spectrum("79", 1));
        Check.spectra(x, Check.spectrum("79", 1, "3"));
        CHECK.due("peaks of an earlier text", x.search(), 0);
    }

    private static void nearness() {
        CHECK.due("that far above", score(500000, "11.5"), 1);
        CHECK.due("farther above", score(500000, "11.500001"), 0);
        CHECK.due("that far below", score(500000, "10.5"), 1);
        CHECK.due("farther below", score(500000, "10.499999"), 0);
        CHECK.due("0 away", score(0, "11"), 1);
        CHECK.due("1 above", score(0, "11.000001"), 0);
        CHECK.due("1 below", score(0, "10.999999"), 0);
        CHECK.due("1 above, NEAR is 1", score(1, "11.000001"), 1);
        CHECK.due("1 below, NEAR is 1", score(1, "10.999999"), 1);
        CHECK.due("the farthest", score(1000000000, "1069"), 1);
        CHECK.due("farther than that", score(1000000000, "1069.000001"), 0);
    }

    private static void greatest() {
        PeptideSearch x = wide(">n\nAD\n>m\nAB\n>o\nAB\n", "11", "39");
        x.search();
        match("2 before 1", x, 2, 1, 0, 0, 2);
        PeptideSearch y = wide(">n\nAB\n>m\nCBA\n", "11", "31", "69");
        y.search();
        match("a turned one of more", y, 3, 1, 1, 0, 3);
        PeptideSearch z = wide(">n\nAD\n", "16", "59");
        z.limits(0, 1);
        z.change(0, 0, 5000000);
        z.search();
        match("a changed one of more", z, 2, 0, 0, 0, 2);
        changes("a changed one of more", z, 0, -1);
    }

    private static void onlyCandidates() {
        PeptideSearch x = made(">n\nABC\n>m\nAD\n", Check.spectrum("69", 1, "11", "31", "49", "69"));
        CHECK.due("search", x.search(), 1);
        match("a better one has another mass", x, 1, 1, 0, 0, 2);
        PeptideSearch y = made(">n\nAB\n", Check.spectrum("54", 1, "11", "39", "16"));
        y.limits(0, 1);
        y.change(0, 0, 5000000);
        y.search();
        match("the form without changes has another mass", y, 2, 0, 0, 0, 2);
        changes("the form without changes has another mass", y, 0, -1);
    }

    private static void notZero() {
        PeptideSearch x = made(">n\nABC\n", Check.spectrum("79", 1, "12"));
        CHECK.due("a greatest score of 0", x.search(), 0);
        CHECK.due("candidates", x.candidates(0), 2);
        CHECK.throwing("no match", Check.ELEMENT, () -> x.match(0, 0));
        Check.spectra(x, Check.spectrum("79", 1, "12", "11"));
        CHECK.due("a greatest score of 1", x.search(), 1);
        match("a score of 1", x, 1, 0, 0, 0, 3);
    }

    /** A protein's later begin, later number and more letters come before a turned one. */
    private static void proteinFirst() {
        PeptideSearch x = wide(">n\nBKACA\n", "11");
        x.search();
        match("turned ACAK begins before ACA", x, 1, 0, 0, 2, 3);
        PeptideSearch y = wide(">n\nCA\n>m\nBKACC\n", "11");
        y.search();
        match("turned AC is of an earlier protein", y, 1, 1, 0, 2, 3);
        PeptideSearch z = made(">n\nCA\n>m\nAC\n", Check.spectrum("64", 1, "16"));
        z.limits(0, 1);
        z.change(3, 0, 5000000);
        z.search();
        match("turned ones have the same changes", z, 1, 1, 0, 0, 2);
        PeptideSearch only = wide(">n\nCA\n", "11");
        only.search();
        match("there is a turned one alone", only, 1, 0, 1, 0, 2);
    }

    private static void leastNumber() {
        PeptideSearch x = wide(">n\nBKACC\n>m\nAC\n", "11");
        x.search();
        match("a later begin, more letters", x, 1, 0, 0, 2, 3);
        PeptideSearch y = made(Check.repeated(">n\nB\n", 10) + ">m\nAC\n>o\nAC\n", Check.spectrum("59", 1, "11"));
        y.search();
        match("the last but one", y, 1, 10, 0, 0, 2);
        PeptideSearch z = made(Check.repeated(">n\nB\n", 11) + ">o\nAC\n", Check.spectrum("59", 1, "11"));
        z.search();
        match("the last", z, 1, 11, 0, 0, 2);
    }

    private static void leastNumberTurned() {
        PeptideSearch x = wide(">n\nCCAKB\n>m\nCA\n", "11");
        x.search();
        match("ACC behind BK before AC", x, 1, 0, 1, 2, 3);
        PeptideSearch y = wide(">n\nDA\n>m\nCA\n", "11");
        y.search();
        match("DA before CA", y, 1, 0, 1, 0, 2);
    }

    private static void leastBegin() {
        PeptideSearch x = wide(">n\nBKACCKAC\n", "11");
        x.search();
        match("more letters", x, 1, 0, 0, 2, 4);
        PeptideSearch y = wide(">n\nKCAKDA\n", "11");
        y.search();
        match("turned: ADK, then ACK", y, 1, 0, 1, 0, 3);
    }

    /** AK with A changed has the peak of 16, AKAK without changes that of 81. */
    private static void fewestLetters() {
        PeptideSearch x = wide(">n\nAKKK\n", "11");
        x.limits(3, 0);
        x.search();
        match("AK, AKK, AKKK", x, 1, 0, 0, 0, 2);
        PeptideSearch y = wide(">n\nAKAK\n", "16", "81");
        y.limits(1, 1);
        y.change(0, 0, 5000000);
        y.search();
        match("AK is changed, AKAK is not", y, 1, 0, 0, 0, 2);
        changes("AK is changed, AKAK is not", y, 0, -1);
    }

    /** One peak is near to all ions, so that all forms of a mass score the same. */
    private static PeptideSearch equal(String letters, int most, String mass) {
        PeptideSearch x = made(">n\n" + letters + "\n", Check.spectrum(mass, 1, "50"));
        x.windows(0, 1000000000);
        x.limits(0, most);
        return x;
    }

    private static void firstByLetters() {
        PeptideSearch x = equal("AAA", 1, "54");
        x.change(0, 0, 5000000);
        x.search();
        changes("one of three: the last is", x, -1, -1, 0);
        PeptideSearch y = equal("AAA", 2, "59");
        y.change(0, 0, 5000000);
        y.search();
        changes("two of three: the first is not", y, -1, 0, 0);
        PeptideSearch z = equal("AB", 2, "54");
        z.change(0, 0, 7000000);
        z.change(1, 0, 5000000);
        z.change(3, 1, -2000000);
        z.search();
        changes("the first letter decides, not how many are changed", z, 0, 3);
        PeptideSearch w = equal("AB", 2, "54");
        w.change(0, 0, 5000000);
        w.change(3, 1, 5000000);
        w.search();
        changes("a greater change farther right", w, -1, 3);
        PeptideSearch v = equal("AAB", 2, "64");
        v.change(0, 0, 5000000);
        v.change(1, 1, 0);
        v.search();
        changes("one change before two", v, -1, 0, -1);
    }

    private static void notChangedFirst() {
        PeptideSearch x = equal("AA", 2, "39");
        x.change(0, 0, 0);
        x.search();
        CHECK.due("candidates", x.candidates(0), 2 * (1 + 2 + 1));
        changes("all weigh the same", x, -1, -1);
        PeptideSearch y = equal("AB", 1, "54");
        y.change(0, 0, 5000000);
        y.change(1, 1, 5000000);
        y.search();
        changes("the first letter is not", y, -1, 1);
    }

    private static void leastChange() {
        for (int c = 0; c < 3; c++) {
            PeptideSearch x = equal("BA", 1, "54");
            for (int d = c; d < 4; d++) {
                x.change(d, 0, 5000000);
            }
            x.search();
            changes("change " + c + " before those behind it", x, -1, c);
            x.change(c, 0, 6000000);
            x.search();
            changes("change " + (c + 1) + " if " + c + " weighs another", x, -1, c + 1);
        }
        PeptideSearch y = equal("AA", 2, "49");
        y.change(2, 0, 5000000);
        y.change(3, 0, 5000000);
        y.search();
        changes("two times the least", y, 2, 2);
        PeptideSearch z = equal("AA", 2, "50");
        z.change(0, 0, 1000000);
        z.change(1, 0, 10000000);
        z.search();
        changes("0 before 1 from the left", z, 0, 1);
    }

    private static void howManyMatch() {
        PeptideSearch none = new PeptideSearch();
        CHECK.due("no spectra, no proteins", none.search(), 0);
        Check.spectra(none, Check.spectrum("79", 1, "11"));
        CHECK.due("no proteins", none.search(), 0);
        String with = Check.spectrum("79", 1, "11");
        String without = Check.spectrum("79", 1, "12");
        CHECK.due("none of one", made(">n\nABC\n", without).search(), 0);
        CHECK.due("one of one", made(">n\nABC\n", with).search(), 1);
        CHECK.due("one of three", made(">n\nABC\n", without, with, without).search(), 1);
        CHECK.due("two of three", made(">n\nABC\n", with, without, with).search(), 2);
        CHECK.due("twelve of twelve", made(">n\nABC\n", Check.repeated(with, 12)).search(), 12);
        CHECK.due("eleven of twelve", made(">n\nABC\n", Check.repeated(with, 11), without).search(), 11);
        CHECK.due("turned ones too", made(">n\nABC\n", Check.spectrum("79", 1, "51"), with).search(), 2);
    }

    private static void howManyCandidates() {
        PeptideSearch x = made(">n\nAAKAA\n>m\nXA\n", Check.spectrum("1000", 1, "5000") + Check.spectrum("39", 1));
        x.limits(1, 2);
        x.change(0, 0, 1000000);
        x.change(1, 0, 1000000);
        x.windows(WIDE, 0);
        CHECK.due("no match", x.search(), 0);
        int ofTwo = 1 + 4 + 4;
        int ofFour = 1 + 8 + 24;
        CHECK.due("every form of every peptide", x.candidates(0), 2 * (ofTwo + ofFour + ofTwo));
        x.windows(0, 0);
        x.search();
        CHECK.due("no form of that mass", x.candidates(0), 0);
        CHECK.due("AA, and AA turned", x.candidates(1), 2);
        CHECK.throwing("spectrum 2", Check.INDEX, () -> x.candidates(2));
    }

    private static void allOfMatch() {
        PeptideSearch x = made(">n\nE\n>m\nBKABC\n", Check.spectrum("79", 1, "11", "31"));
        x.search();
        match("of a protein", x, 2, 1, 0, 2, 3);
        PeptideSearch y = made(">n\nE\n>m\nABCKE\n", Check.spectrum("79", 1, "31", "51", "29", "49"));
        y.search();
        match("of a turned one", y, 4, 1, 1, 2, 3);
    }

    private static void changeOfLetters() {
        PeptideSearch x = made(">n\nE\n>m\nABCKE\n", Check.spectrum("84", 1, "31", "56", "29", "54"));
        x.change(0, 1, 5000000);
        x.limits(0, 1);
        x.search();
        match("CBA turned", x, 4, 1, 1, 2, 3);
        changes("its second letter", x, -1, 0, -1);
        CHECK.throwing("before its first letter", Check.INDEX, () -> x.changed(0, -1));
        PeptideSearch y = made(">n\nABC\n", Check.spectrum("79", 1, "11"));
        y.change(0, 1, 5000000);
        y.limits(0, 2);
        y.search();
        changes("none is changed", y, -1, -1, -1);
        PeptideSearch z = made(">n\nABC\n", Check.spectrum("91", 1, "16", "76"));
        z.change(3, 0, 5000000);
        z.change(2, 2, 7000000);
        z.limits(0, 2);
        z.search();
        changes("the first and the last", z, 3, -1, 2);
    }
}
