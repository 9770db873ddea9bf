/** Promises 17 to 20: search, candidates, match, changed. */
public final class MatchTest {
    private static final Check CHECK = new Check();
    private static final int[] FAR = {Integer.MIN_VALUE, Integer.MAX_VALUE};

    public static void main(String[] args) {
        ordinary();
        nothingToSearch();
        candidateEdges();
        candidatesOfAllForms();
        noMassNoCandidates();
        leastMasses();
        scoreEdges();
        manyPeaks();
        lightIons();
        turnedMatch();
        equalScores();
        equalForms();
        twoChanges();
        goodByBothChanges();
        searchedAgain();
        exceptions();
        CHECK.end();
    }

    private static PeptideSearch made(String proteins, String spectra) {
        PeptideSearch x = Check.withLetters();
        Check.proteins(x, proteins);
        Check.spectra(x, spectra);
        return x;
    }

    private static void match(PeptideSearch x, int spectrum, int... want) {
        String[] what = {"score", "protein", "turned", "begin", "letters"};
        for (int k = 0; k < want.length; k++) {
            CHECK.due("match: " + what[k] + " of " + spectrum, x.match(spectrum, k), want[k]);
        }
    }

    private static void changes(PeptideSearch x, int... want) {
        for (int i = 0; i < want.length; i++) {
            CHECK.due("change of letter " + i, x.changed(0, i), want[i]);
        }
        CHECK.throwing("behind the letters", Check.INDEX, () -> x.changed(0, want.length));
    }

    /** ABC: 11, 31 and 49, 69; turned 31, 51 and 29, 49. */
    private static void ordinary() {
        String ordinary = Check.spectrum("79", 1, "69", "11", "49", "31");
        String doubled = Check.spectrum("40", 2, "11", "31", "49", "69", "70");
        String none = Check.spectrum("79", 1, "12", "30");
        PeptideSearch x = made(">n\nABC\n", ordinary + doubled + none);
        CHECK.due("search", x.search(), 2);
        CHECK.due("candidates", x.candidates(0), 2);
        CHECK.due("candidates of a charge of 2", x.candidates(1), 2);
        CHECK.due("candidates without a match", x.candidates(2), 2);
        match(x, 0, 4, 0, 0, 0, 3);
        match(x, 1, 4, 0, 0, 0, 3);
        changes(x, -1, -1, -1);
        CHECK.throwing("a score of 0", Check.ELEMENT, () -> x.match(2, 0));
    }

    private static void nothingToSearch() {
        PeptideSearch x = new PeptideSearch();
        CHECK.due("nothing", x.search(), 0);
        CHECK.throwing("no spectrum", Check.INDEX, () -> x.candidates(0));
        Check.spectra(x, Check.spectrum("79", 1, "11"));
        CHECK.due("no proteins", x.search(), 0);
        CHECK.due("no candidates", x.candidates(0), 0);
        Check.proteins(x, ">n\nABC\n");
        CHECK.due("no letter is known", x.search(), 0);
        CHECK.due("no forms", x.candidates(0), 0);
    }

    private static void candidateEdges() {
        String[] masses = {"79", "79.000780", "79.000781", "78.999221", "78.999220"};
        int[] want = {2, 2, 0, 2, 0};
        for (int k = 0; k < masses.length; k++) {
            PeptideSearch x = made(">n\nABC\n", Check.spectrum(masses[k], 1, "11"));
            x.windows(10, 0);
            x.search();
            CHECK.due("candidates at " + masses[k], x.candidates(0), want[k]);
        }
        PeptideSearch heavy = made(">n\nABC\n", Check.spectrum("99999.999999", 5, "11"));
        heavy.windows(999843, 0);
        heavy.search();
        CHECK.due("the greatest mass of all, too far", heavy.candidates(0), 0);
        heavy.windows(999844, 0);
        heavy.search();
        CHECK.due("the greatest mass of all", heavy.candidates(0), 2);
    }

    private static void candidatesOfAllForms() {
        PeptideSearch x = made(">n\nAAKAA\n>m\nXA\n", Check.spectrum("1000", 1, "5000"));
        x.limits(1, 2);
        x.change(0, 0, 1000000);
        x.change(1, 0, 1000000);
        x.windows(1000000, 0);
        CHECK.due("no peak is near", x.search(), 0);
        int ofThree = 1 + 4 + 4;
        int ofFive = 1 + 8 + 24;
        CHECK.due("candidates", x.candidates(0), 2 * (ofThree + ofFive + ofThree));
        x.change(1, -1, 0);
        x.change(0, 0, -38000000);
        x.search();
        CHECK.due("forms that weigh 0 are none", x.candidates(0), 2 * (4 + 11 + 1));
    }

    private static void noMassNoCandidates() {
        PeptideSearch x = made(">n\nA\n", Check.spectrum("1", 1, "5") + Check.spectrum("0.5", 5, "5"));
        x.letter(0, 1, false, false);
        x.extras(0, 1000000);
        x.windows(1000000, 1000000000);
        CHECK.due("search", x.search(), 0);
        CHECK.due("a mass of 0", x.candidates(0), 0);
        CHECK.due("a mass below 0", x.candidates(1), 0);
    }

    /** Forms of 1 and 2 millionths, spectra of 2, 1 and 3. */
    private static void leastMasses() {
        PeptideSearch x = made(">n\nA\n>m\nB\n", Check.spectrum("1.000002", 1) + Check.spectrum("1.000001", 1)
            + Check.spectrum("1.000003", 1));
        x.letter(0, 1, false, false);
        x.letter(1, 2, false, false);
        x.extras(0, 1000000);
        CHECK.due("one form", x.peptide(0, false, 0, 2), 1);
        x.windows(1000000, 0);
        x.search();
        CHECK.due("a mass of 2", x.candidates(0), 4);
        CHECK.due("a mass of 1", x.candidates(1), 4);
        x.windows(333333, 0);
        x.search();
        CHECK.due("not quite a third", x.candidates(2), 0);
        x.windows(333334, 0);
        x.search();
        CHECK.due("a third", x.candidates(2), 2);
    }

    private static int score(PeptideSearch x, int near, String... peaks) {
        Check.spectra(x, Check.spectrum("79", 1, peaks));
        x.windows(0, near);
        return x.search() == 0 ? 0 : x.match(0, 0);
    }

    private static void scoreEdges() {
        PeptideSearch x = made(">n\nABC\n", "");
        x.letter(25, 1, false, false);
        CHECK.due("no peaks", score(x, 1000000000), 0);
        CHECK.due("a peak NEAR above", score(x, 500000, "11.5"), 1);
        CHECK.due("a peak NEAR below", score(x, 500000, "10.5"), 1);
        CHECK.due("a peak farther above", score(x, 500000, "11.500001"), 0);
        CHECK.due("a peak farther below", score(x, 500000, "10.499999"), 0);
        CHECK.due("two peaks of one ion", score(x, 500000, "11", "11.1"), 1);
        CHECK.due("one peak of two ions", score(x, 10000000, "21"), 2);
        CHECK.due("one peak of all ions", score(x, 1000000000, "0"), 4);
        CHECK.due("the whole is no ion", score(x, 0, "79", "61", "1", "19"), 0);
        Check.proteins(x, ">n\nAA\n");
        x.letter(0, 30000000, false, false);
        x.extras(0, 1000000);
        Check.spectra(x, Check.spectrum("61", 1, "31"));
        x.search();
        CHECK.due("equal ions count twice", x.match(0, 0), 2);
        Check.proteins(x, ">n\nA\n");
        Check.spectra(x, Check.spectrum("31", 1, "31", "1"));
        CHECK.due("one letter has no ions", x.search(), 0);
        CHECK.due("one letter is a candidate", x.candidates(0), 2);
    }

    /** All ions are behind all peaks, or behind all but one; peaks of an earlier text do not count. */
    private static void manyPeaks() {
        PeptideSearch x = made(">n\nABC\n", "");
        String[] peaks = new String[40];
        java.util.Arrays.fill(peaks, "69");
        CHECK.due("40 peaks at the last ion", score(x, 0, peaks), 1);
        CHECK.due("no peak", score(x, 0), 0);
        java.util.Arrays.fill(peaks, "3");
        CHECK.due("40 peaks before the ions", score(x, 0, peaks), 0);
        peaks[0] = "69";
        CHECK.due("39 peaks before the ions", score(x, 0, peaks), 1);
        CHECK.due("one peak before the ions", score(x, 0, "3"), 0);
    }

    /** Of the turned BA with A changed: 21 and -11. */
    private static void lightIons() {
        PeptideSearch x = made(">n\nAB\n", Check.spectrum("9", 1, "0"));
        x.limits(0, 1);
        x.change(0, 0, -40000000);
        x.windows(0, 11000000);
        CHECK.due("search", x.search(), 1);
        match(x, 0, 1, 0, 1, 0, 2);
        changes(x, -1, 0);
        x.windows(0, 10999999);
        CHECK.due("it is too far", x.search(), 0);
    }

    private static void turnedMatch() {
        PeptideSearch x = made(">n\nE\n>m\nEKABC\n", Check.spectrum("79", 1, "31", "51", "29", "49"));
        x.search();
        CHECK.due("turned CBAKE is not cut", x.candidates(0), 1);
        match(x, 0, 2, 1, 0, 2, 3);
        PeptideSearch z = made(">n\nE\n>m\nABCKE\n", Check.spectrum("84", 1, "31", "56", "29", "54"));
        z.change(3, 1, 5000000);
        z.limits(0, 1);
        CHECK.due("CBA", z.search(), 1);
        match(z, 0, 4, 1, 1, 2, 3);
        changes(z, -1, 3, -1);
    }

    private static void equalScores() {
        PeptideSearch x = made(">n\nABA\n>m\nABA\n", Check.spectrum("59", 1, "11", "31"));
        x.search();
        CHECK.due("candidates", x.candidates(0), 4);
        match(x, 0, 2, 0, 0, 0, 3);
        PeptideSearch turnedOrNot = made(">n\nBA\n>m\nAB\n", Check.spectrum("49", 1, "11"));
        turnedOrNot.search();
        match(turnedOrNot, 0, 1, 1, 0, 0, 2);
        PeptideSearch begins = made(">n\nBKAKAKAK\n", Check.spectrum("89", 1, "11"));
        begins.search();
        match(begins, 0, 1, 0, 0, 2, 2);
        PeptideSearch letters = made(">n\nAKKAK\n", Check.spectrum("1000", 1, "11"));
        letters.limits(3, 0);
        letters.windows(1000000, 0);
        letters.search();
        match(letters, 0, 1, 0, 0, 0, 2);
        PeptideSearch beginFirst = made(">n\nABKAK\n", Check.spectrum("1000", 1, "11"));
        beginFirst.windows(1000000, 0);
        beginFirst.search();
        match(beginFirst, 0, 1, 0, 0, 0, 3);
        PeptideSearch greater = made(">n\nAB\n>m\nBA\n", Check.spectrum("49", 1, "11", "21", "29"));
        greater.search();
        match(greater, 0, 2, 1, 0, 0, 2);
    }

    private static PeptideSearch changing(String protein, int most, String mass, String... peaks) {
        PeptideSearch x = made(">n\n" + protein + "\n", Check.spectrum(mass, 1, peaks));
        x.limits(0, most);
        x.change(1, 0, 5000000);
        x.change(2, 0, 5000000);
        x.change(3, 1, 5000000);
        return x;
    }

    private static void equalForms() {
        PeptideSearch x = changing("AA", 1, "44", "16", "11");
        x.search();
        CHECK.due("candidates", x.candidates(0), 8);
        match(x, 0, 1, 0, 0, 0, 2);
        changes(x, -1, 1);
        PeptideSearch left = changing("AA", 1, "44", "16", "29", "11");
        left.search();
        match(left, 0, 2, 0, 0, 0, 2);
        changes(left, 1, -1);
        PeptideSearch plain = changing("AA", 1, "44", "11");
        plain.windows(1000000, 0);
        plain.search();
        changes(plain, -1, -1);
        PeptideSearch middle = changing("ABA", 1, "64", "50");
        middle.windows(0, 40000000);
        middle.search();
        match(middle, 0, 4, 0, 0, 0, 3);
        changes(middle, -1, -1, 1);
        PeptideSearch onlyB = changing("ABD", 1, "94", "36");
        onlyB.search();
        changes(onlyB, -1, 3, -1);
    }

    private static void twoChanges() {
        PeptideSearch x = changing("ABA", 2, "69", "50");
        x.windows(0, 40000000);
        x.search();
        CHECK.due("candidates", x.candidates(0), 2 * (4 + 2 + 2));
        match(x, 0, 4, 0, 0, 0, 3);
        changes(x, -1, 3, 1);
        PeptideSearch ends = changing("ABA", 2, "69", "16", "36", "34", "54");
        ends.search();
        match(ends, 0, 4, 0, 0, 0, 3);
        changes(ends, 1, -1, 1);
        PeptideSearch first = changing("ABA", 2, "69", "16", "41", "29", "54");
        first.search();
        match(first, 0, 4, 0, 0, 0, 3);
        changes(first, 1, 3, -1);
        first.limits(0, 1);
        CHECK.due("one is not enough", first.search(), 0);
    }

    /** A form of one change weighs 0 or less, that with another one does not: the ions between them count. */
    private static void goodByBothChanges() {
        PeptideSearch x = made(">n\nEAB\n", Check.spectrum("1079", 1, "1051", "61", "1000", "1019"));
        x.limits(0, 2);
        x.change(0, 0, -1000000000);
        x.change(1, 1, 1981000000 / 2);
        x.change(2, 4, 1000000000);
        x.search();
        CHECK.due("candidates without pairs", x.candidates(0), 0);
        Check.spectra(x, Check.spectrum("99", 1, "1051", "61", "39"));
        x.search();
        CHECK.due("candidates", x.candidates(0), 4);
        match(x, 0, 3, 0, 0, 0, 3);
        changes(x, 2, 0, -1);
    }

    private static void searchedAgain() {
        PeptideSearch x = made(">n\nABC\n", Check.spectrum("79", 1, "11"));
        CHECK.due("once", x.search(), 1);
        CHECK.due("twice", x.search(), 1);
        CHECK.due("candidates are not added", x.candidates(0), 2);
        match(x, 0, 1, 0, 0, 0, 3);
        x.letter(0, 0, false, false);
        CHECK.due("no match any more", x.search(), 0);
        CHECK.due("no candidates any more", x.candidates(0), 0);
        CHECK.throwing("no match", Check.ELEMENT, () -> x.match(0, 0));
    }

    private static void exceptions() {
        PeptideSearch x = made(">n\nABC\n", Check.spectrum("79", 1, "11") + Check.spectrum("79", 1));
        CHECK.throwing("candidates, state", Check.STATE, () -> x.candidates(5));
        CHECK.throwing("match, state", Check.STATE, () -> x.match(5, 5));
        CHECK.throwing("changed, state", Check.STATE, () -> x.changed(5, 5));
        CHECK.due("search", x.search(), 1);
        CHECK.throwing("candidates, spectrum", Check.INDEX, () -> x.candidates(2));
        CHECK.throwing("candidates, spectrum", Check.INDEX, () -> x.candidates(-1));
        CHECK.throwing("match, spectrum", Check.INDEX, () -> x.match(2, 5));
        CHECK.throwing("match, spectrum", Check.INDEX, () -> x.match(-1, 0));
        CHECK.throwing("match, what", Check.ARGUMENT, () -> x.match(0, 5));
        CHECK.throwing("match, what", Check.ARGUMENT, () -> x.match(0, -1));
        CHECK.throwing("match, what before none", Check.ARGUMENT, () -> x.match(1, 5));
        CHECK.throwing("match, none", Check.ELEMENT, () -> x.match(1, 4));
        CHECK.throwing("changed, spectrum", Check.INDEX, () -> x.changed(2, 0));
        CHECK.throwing("changed, spectrum", Check.INDEX, () -> x.changed(-1, 0));
        CHECK.throwing("changed, none before the letter", Check.ELEMENT, () -> x.changed(1, 99));
        CHECK.throwing("changed, letter", Check.INDEX, () -> x.changed(0, 3));
        CHECK.throwing("changed, letter", Check.INDEX, () -> x.changed(0, -1));
        for (int far : FAR) {
            CHECK.throwing("candidates of " + far, Check.INDEX, () -> x.candidates(far));
            CHECK.throwing("match of " + far, Check.INDEX, () -> x.match(far, 0));
            CHECK.throwing("match, what " + far, Check.ARGUMENT, () -> x.match(0, far));
            CHECK.throwing("changed of " + far, Check.INDEX, () -> x.changed(far, 0));
            CHECK.throwing("changed, letter " + far, Check.INDEX, () -> x.changed(0, far));
        }
    }
}
