/** Rates, what is accepted, and what explains it: "Terms" and promises 21 and 22. */
public final class RateTest {
    private static final Check CHECK = new Check();
    /** The ions of ABCD and of DCBA, which have none in common. */
    private static final String[] STRAIGHT = {"11", "31", "61", "59", "89", "109"};
    private static final String[] TURNED = {"41", "71", "91", "29", "49", "79"};

    public static void main(String[] args) {
        CHECK.holds("let a be how many spectra have matches of turned proteins, b those of others", RateTest::ab);
        CHECK.holds("with scores t and more", RateTest::scoresAndMore);
        CHECK.holds("for t = 1 .. s", RateTest::upToScore);
        CHECK.holds("1 if a is more", RateTest::moreTurned);
        CHECK.holds("1 if ... b is 0", RateTest::noOthers);
        CHECK.holds("the rate is the least of these", RateTest::leastOfThese);
        CHECK.holds("as p / q without a common divisor", RateTest::noCommonDivisor);
        CHECK.holds("(0 is 0 / 1)", RateTest::zero);
        CHECK.holds("rate: The rate of a spectrum's match", RateTest::onlyOfMatches);
        CHECK.holds("ACCEPTED at p / q if ... its rate is not more", RateTest::notMore);
        CHECK.holds("ACCEPTED at p / q: 0 and 1", RateTest::zeroAndOne);
        CHECK.holds("ACCEPTED at p / q if it is not of a turned protein", RateTest::notTurned);
        CHECK.holds("ACCEPTED at p / q: each match by its own rate", RateTest::someAccepted);
        CHECK.holds("EXPLAINED ... if the letters of each are a peptide of one of them", RateTest::lettersOfPeptide);
        CHECK.holds("the letters of each are a peptide: changes apart", RateTest::changesApart);
        CHECK.holds("the letters of each are a peptide: with places between", RateTest::placesBetween);
        CHECK.holds("the letters of each are a peptide: not of a turned protein", RateTest::turnedLetters);
        CHECK.holds("explain: by as few proteins as can be", RateTest::asFew);
        CHECK.holds("explain: by as few proteins as can be: none", RateTest::noneNeeded);
        CHECK.holds("(of several sets the one with the least number that is not in the other one)",
            RateTest::leastNumber);
        CHECK.holds("explain: these: nothing is left of what explained before", RateTest::explainedAgain);
        CHECK.holds("explain: these, protein k being 2^k", RateTest::powers);
        CHECK.holds("explain: these, protein k being 2^k: all twelve", RateTest::allTwelve);
        CHECK.end();
    }

    /** Each number is a spectrum's score, below 0 one of the turned protein. */
    private static PeptideSearch scored(int... scores) {
        StringBuilder text = new StringBuilder();
        for (int score : scores) {
            String[] ions = score < 0 ? TURNED : STRAIGHT;
            text.append(Check.spectrum("119", 1, java.util.Arrays.copyOf(ions, Math.abs(score))));
        }
        PeptideSearch x = Check.withLetters();
        Check.proteins(x, ">n\nABCD\n");
        Check.spectra(x, text.toString());
        x.search();
        return x;
    }

    private static void rate(PeptideSearch x, int spectrum, int p, int q) {
        CHECK.due("p of " + spectrum, x.rate(spectrum, 0), p);
        CHECK.due("q of " + spectrum, x.rate(spectrum, 1), q);
    }

    private static void ab() {
        PeptideSearch x = scored(3, 3, 3, -3);
        for (int s = 0; s < 4; s++) {
            rate(x, s, 1, 3);
        }
        rate(scored(6, 6, -6, -6, 6), 3, 2, 3);
        rate(scored(-1, 1, 1, 1, 1, 1, 1, 1, 1, 1, 1, 1), 0, 1, 11);
        rate(scored(-1, -1, -1, -1, -1, 1, 1, 1, 1, 1, 1, 1), 11, 5, 7);
    }

    /** At t = 2 the scores of 2 count, those of 1 do not. */
    private static void scoresAndMore() {
        PeptideSearch x = scored(2, 2, 2, -2, 1, -1, -1);
        rate(x, 0, 1, 3);
        rate(x, 3, 1, 3);
        rate(x, 4, 3, 4);
        rate(x, 6, 3, 4);
        rate(scored(2, 3, -2), 0, 1, 2);
        rate(scored(2, 1, -2), 0, 1, 2);
    }

    /** The rate of a score of 1 knows nothing of t = 2; that of a score of 2 has it. */
    private static void upToScore() {
        PeptideSearch x = scored(2, 1, -1);
        rate(x, 0, 0, 1);
        rate(x, 1, 1, 2);
        rate(x, 2, 1, 2);
        PeptideSearch y = scored(3, 2, -2, 1, -1, -1);
        rate(y, 0, 0, 1);
        rate(y, 1, 1, 2);
        rate(y, 2, 1, 2);
        rate(y, 3, 1, 1);
        rate(y, 5, 1, 1);
    }

    private static void moreTurned() {
        rate(scored(1, -1, -1), 0, 1, 1);
        rate(scored(1, -1, -1), 2, 1, 1);
        rate(scored(1, -1), 0, 1, 1);
        rate(scored(1, 1, -1), 0, 1, 2);
        rate(scored(2, -2, -2, -2, -2, -2, -2, -2, -2, -2, -2, -2), 0, 1, 1);
        rate(scored(2, 2, 2, 2, 2, 2, -2, -2, -2, -2, -2, -2), 0, 1, 1);
    }

    private static void noOthers() {
        rate(scored(-5), 0, 1, 1);
        rate(scored(-1, -1), 1, 1, 1);
        PeptideSearch x = scored(1, 1, -2);
        rate(x, 0, 1, 2);
        rate(x, 2, 1, 2);
    }

    private static void leastOfThese() {
        PeptideSearch x = scored(1, 1, 1, 1, -3);
        rate(x, 4, 1, 4);
        rate(x, 0, 1, 4);
        PeptideSearch y = scored(5, 3, 3, -4, -4, -2, 1, 1, 1, 1);
        rate(y, 0, 0, 1);
        rate(y, 1, 3, 7);
        rate(y, 3, 3, 7);
        rate(y, 5, 3, 7);
        PeptideSearch z = scored(4, 4, 4, -4, -2, 1);
        rate(z, 0, 1, 3);
        rate(z, 4, 1, 2);
        rate(z, 5, 1, 2);
        PeptideSearch w = scored(2, 2, 1, 1, 1, 1, 1, -2, -1, -1, -1, -1);
        rate(w, 0, 1, 2);
        rate(w, 2, 5, 7);
    }

    private static void noCommonDivisor() {
        rate(scored(2, 2, 2, 2, -2, -2), 0, 1, 2);
        rate(scored(2, 2, 2, 2, 2, 2, -2, -2, -2, -2), 9, 2, 3);
        rate(scored(2, 2, 2, 2, 2, 2, 2, 2, 2, -2, -2, -2), 0, 1, 3);
        rate(scored(2, 2, 2, 2, 2, 2, 2, 2, -2, -2, -2, -2), 0, 1, 2);
        rate(scored(2, 2, -2, -2), 0, 1, 1);
        rate(scored(2, 2, 2, -2, -2), 0, 2, 3);
    }

    private static void zero() {
        rate(scored(1), 0, 0, 1);
        rate(scored(2, 2, 2, 2), 0, 0, 1);
        rate(scored(2, 2, 2, 2, -1), 3, 0, 1);
        rate(scored(2, 2, 2, 2, -1), 4, 1, 4);
    }

    private static void onlyOfMatches() {
        PeptideSearch x = scored(3, 0, 3, -3);
        rate(x, 0, 1, 2);
        CHECK.throwing("no match, p", Check.ELEMENT, () -> x.rate(1, 0));
        CHECK.throwing("no match, q", Check.ELEMENT, () -> x.rate(1, 1));
    }

    private static void notMore() {
        PeptideSearch third = scored(3, 3, 3, -3);
        int[][] yes = {{1, 3}, {2, 6}, {333, 999}, {334, 1000}, {1, 2}, {1, 1}, {1000, 1}, {1000, 1000}};
        int[][] no = {{333, 1000}, {332, 999}, {1, 4}, {0, 1}, {0, 1000}, {1, 1000}};
        for (int[] f : yes) {
            CHECK.due("1/3 at " + f[0] + "/" + f[1], third.explain(f[0], f[1]), 1);
        }
        for (int[] f : no) {
            CHECK.due("1/3 at " + f[0] + "/" + f[1], third.explain(f[0], f[1]), 0);
        }
        PeptideSearch sevenths = scored(-1, -1, -1, -1, -1, 1, 1, 1, 1, 1, 1, 1);
        CHECK.due("5/7 at 714/1000", sevenths.explain(714, 1000), 0);
        CHECK.due("5/7 at 715/1000", sevenths.explain(715, 1000), 1);
        CHECK.due("5/7 at 709/993", sevenths.explain(709, 993), 0);
        CHECK.due("5/7 at 710/994", sevenths.explain(710, 994), 1);
    }

    private static void zeroAndOne() {
        CHECK.due("a rate of 0 at 0", scored(3).explain(0, 1), 1);
        CHECK.due("a rate of 0 at 0 / 1000", scored(3).explain(0, 1000), 1);
        CHECK.due("a rate of 1 at 1", scored(3, -3).explain(1, 1), 1);
        CHECK.due("a rate of 1 at 1000 / 1000", scored(3, -3).explain(1000, 1000), 1);
        CHECK.due("a rate of 1 at 999 / 1000", scored(3, -3).explain(999, 1000), 0);
        CHECK.due("a rate of 1 at 1000 / 999", scored(3, -3, -3).explain(1000, 999), 1);
    }

    private static void notTurned() {
        CHECK.due("a turned one alone", scored(-3).explain(1, 1), 0);
        CHECK.due("a turned one of a rate of 1 at 1000", scored(-3).explain(1000, 1), 0);
        PeptideSearch x = Check.withLetters();
        Check.proteins(x, ">n\nABCD\n>m\nDCBA\n");
        Check.spectra(x, Check.spectrum("119", 1, STRAIGHT) + Check.spectrum("119", 1, TURNED));
        x.search();
        CHECK.due("both are of a protein", x.explain(0, 1), 3);
        Check.proteins(x, ">n\nABCD\n>m\nAE\n");
        x.search();
        CHECK.due("one of a turned one", x.match(1, 2), 1);
        CHECK.due("the other is accepted", x.explain(1, 1), 1);
    }

    /** Two peptides: one of score 2 without turned ones so high, one of score 1 with one. */
    private static void someAccepted() {
        PeptideSearch x = Check.withLetters();
        Check.proteins(x, ">n\nABK\n>m\nACK\n>o\nBD\n");
        Check.spectra(x, Check.spectrum("109", 1, "11", "31") + Check.spectrum("119", 1, "11")
            + Check.spectrum("79", 1, "41"));
        CHECK.due("all match", x.search(), 3);
        CHECK.due("the third is turned", x.match(2, 2), 1);
        rate(x, 0, 0, 1);
        rate(x, 1, 1, 2);
        CHECK.due("at 0", x.explain(0, 1), 1);
        CHECK.due("at 499/1000", x.explain(499, 1000), 1);
        CHECK.due("at 1/2", x.explain(1, 2), 3);
    }

    /** Peptides AxK, each with a spectrum of its mass and of the ions A and Ax. */
    private static PeptideSearch explained(String peptides, String... proteins) {
        StringBuilder text = new StringBuilder();
        for (String protein : proteins) {
            text.append(">n\n").append(protein).append('\n');
        }
        PeptideSearch x = Check.withLetters();
        Check.proteins(x, text.toString());
        StringBuilder spectra = new StringBuilder();
        for (char c : peptides.toCharArray()) {
            int mass = 10 * (c - 'A' + 1);
            spectra.append(Check.spectrum(String.valueOf(89 + mass), 1, "11", String.valueOf(11 + mass)));
        }
        Check.spectra(x, spectra.toString());
        CHECK.due("all are found", x.search(), peptides.length());
        return x;
    }

    private static void lettersOfPeptide() {
        CHECK.due("its own protein", explained("B", "ABK").explain(1, 1), 1);
        PeptideSearch x = explained("BC", "ABK", "ABKACK", "ACK");
        CHECK.due("ABK is found in the first", x.match(0, 1), 0);
        CHECK.due("another protein has it, too", x.explain(1, 1), 2);
        CHECK.due("a stop: no peptide", explained("BC", "ABK", "ABKPDKACK").explain(1, 1), 3);
        CHECK.due("part of a peptide", explained("BC", "ABK", "DABKACK").explain(1, 1), 3);
        CHECK.due("a peptide that goes on", explained("BC", "ABK", "ABDKACK").explain(1, 1), 3);
        CHECK.due("the first letter is another", explained("BC", "ABK", "EBKACK").explain(1, 1), 3);
        CHECK.due("the second letter is another", explained("BC", "ABK", "AEKACK").explain(1, 1), 3);
        CHECK.due("the last letter is another", explained("BC", "ABK", "ACKABE").explain(1, 1), 3);
        CHECK.due("the last letters", explained("BC", "ABK", "ACKABK").explain(1, 1), 2);
    }

    private static void changesApart() {
        PeptideSearch x = Check.withLetters();
        Check.proteins(x, ">n\nABK\n>m\nABKACK\n");
        Check.spectra(x, Check.spectrum("114", 1, "16", "36") + Check.spectrum("119", 1, "11", "41"));
        x.limits(0, 1);
        x.change(0, 0, 5000000);
        CHECK.due("all match", x.search(), 2);
        CHECK.due("the first is changed", x.changed(0, 0), 0);
        CHECK.due("the second protein has the letters", x.explain(1, 1), 2);
    }

    private static void placesBetween() {
        PeptideSearch x = Check.withLetters();
        Check.proteins(x, ">n\nBKAK\n>m\nBKAKBK\n>l\nAKBKAK\n");
        x.limits(1, 0);
        Check.spectra(x, Check.spectrum("169", 1, "21", "81") + Check.spectrum("169", 1, "11", "71"));
        x.search();
        CHECK.due("BKAK and AKBK", x.explain(1, 1), 2);
    }

    /** The turned CBA is ABC, too, and would be of the least number. */
    private static void turnedLetters() {
        PeptideSearch x = Check.withLetters();
        Check.proteins(x, ">n\nCBA\n>m\nABC\n");
        Check.spectra(x, Check.spectrum("79", 1, "11", "31", "49", "69"));
        x.search();
        CHECK.due("the match", x.match(0, 1), 1);
        CHECK.due("its protein alone", x.explain(1, 1), 2);
    }

    private static void asFew() {
        CHECK.due("one for all", explained("BCD", "ABK", "ACK", "ADK", "ABKACKADK").explain(1, 1), 8);
        CHECK.due("each its own", explained("BCD", "ABK", "ACK", "ADK").explain(1, 1), 7);
        CHECK.due("the same twice", explained("BB", "EK", "ABK", "ABK").explain(1, 1), 2);
        CHECK.due("two are fewer", explained("BCDE", "ABK", "ABKACK", "ADK", "AEK", "ADKAEK").explain(1, 1), 2 + 16);
        PeptideSearch greedy = explained("ABCDE", "AAKABKACK", "AAKADK", "ABKACKAEKADK", "AEK");
        CHECK.due("two, one of which no single step finds", greedy.explain(1, 1), 4 + 1);
        PeptideSearch trap = explained("ABCDE", "AAKABKACK", "AAKABKADK", "ACKAEK");
        CHECK.due("the greatest protein is not needed", trap.explain(1, 1), 2 + 4);
    }

    private static void noneNeeded() {
        CHECK.due("nothing accepted", scored(0).explain(1, 1), 0);
        CHECK.due("nothing accepted at 0", scored(3, -3).explain(0, 1), 0);
        PeptideSearch x = new PeptideSearch();
        x.search();
        CHECK.due("no proteins, no spectra", x.explain(1, 1), 0);
        Check.proteins(x, ">n\nABCD\n");
        x.search();
        CHECK.due("no spectra", x.explain(1, 1), 0);
    }

    private static void leastNumber() {
        CHECK.due("0, not 1", explained("B", "ABK", "ABK").explain(1, 1), 1);
        CHECK.due("1, not 2", explained("B", "EK", "ABKCK", "ABK").explain(1, 1), 2);
        CHECK.due("0 and 2, not 1 and 2, not 1 and 3",
            explained("BCD", "ABK", "ABKACK", "ACKADK", "ADK").explain(1, 1), 1 + 4);
        CHECK.due("0 and 3, not 1 and 2",
            explained("BCDE", "ABKACK", "ABKADK", "ACKAEK", "ADKAEK").explain(1, 1), 1 + 8);
        CHECK.due("0 and 4, not 1 and 2",
            explained("BCDE", "ABKACK", "ABKADK", "ACKAEK", "ADK", "ADKAEK").explain(1, 1), 1 + 16);
        CHECK.due("0 and 1, not 0 and 2", explained("BC", "ABK", "ACK", "ACK").explain(1, 1), 1 + 2);
        CHECK.due("0, 1 and 2, not 0, 1 and 5, not 0, 2 and 3",
            explained("BCDE", "ABK", "ACKADK", "ACKAEK", "ADK", "EK", "AEK").explain(1, 1), 1 + 2 + 4);
    }

    private static void explainedAgain() {
        PeptideSearch x = explained("BC", "ABKACK", "ABK", "ACK");
        CHECK.due("the first", x.explain(1, 1), 1);
        Check.proteins(x, ">n\nEK\n>m\nABK\n>o\nACK\n");
        CHECK.due("all match again", x.search(), 2);
        CHECK.due("the others", x.explain(1, 1), 2 + 4);
        CHECK.due("the others again", x.explain(1, 1), 2 + 4);
        Check.proteins(x, ">n\nEK\n");
        CHECK.due("none matches", x.search(), 0);
        CHECK.due("nothing to explain", x.explain(1, 1), 0);
    }

    private static void powers() {
        for (int k = 0; k < 12; k++) {
            String[] proteins = new String[12];
            java.util.Arrays.fill(proteins, "EK");
            proteins[k] = "ABK";
            CHECK.due("protein " + k, explained("B", proteins).explain(1, 1), 1 << k);
        }
    }

    /** Each protein's spectrum has an ion that no other one has. */
    private static void allTwelve() {
        PeptideSearch x = new PeptideSearch();
        StringBuilder proteins = new StringBuilder();
        StringBuilder spectra = new StringBuilder();
        for (int k = 0; k < 12; k++) {
            x.letter(k, 1000000 * (100 + k * k), false, false);
            char c = (char) ('A' + k);
            proteins.append(">p\n").append(c).append(c).append('\n');
            spectra.append(Check.spectrum(String.valueOf(219 + 2 * k * k), 1, String.valueOf(101 + k * k)));
        }
        Check.proteins(x, proteins.toString());
        Check.spectra(x, spectra.toString());
        CHECK.due("all match", x.search(), 12);
        for (int s = 0; s < 12; s++) {
            CHECK.due("candidates of " + s, x.candidates(s), 2);
            CHECK.due("protein of " + s, x.match(s, 1), s);
        }
        CHECK.due("all are needed", x.explain(0, 1), 4095);
    }
}
