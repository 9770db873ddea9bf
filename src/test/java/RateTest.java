/** Promises 21 and 22: rate, explain. */
public final class RateTest {
    private static final Check CHECK = new Check();
    private static final int[] FAR = {Integer.MIN_VALUE, Integer.MAX_VALUE};
    /** The ions of ABCD and of DCBA, which have none in common. */
    private static final String[] STRAIGHT = {"11", "31", "61", "59", "89", "109"};
    private static final String[] TURNED = {"41", "71", "91", "29", "49", "79"};

    public static void main(String[] args) {
        rates();
        leastRates();
        shortenedRates();
        ratesOfOne();
        rateExceptions();
        accepted();
        peptidesOfSeveral();
        fewestFirst();
        leastNumberFirst();
        onlyPeptidesExplain();
        twelveProteins();
        explainExceptions();
        CHECK.end();
    }

    /** Each number is a spectrum's score, below 0 one of the turned protein. */
    private static PeptideSearch scored(int... scores) {
        StringBuilder text = new StringBuilder();
        for (int score : scores) {
            String[] ions = score < 0 ? TURNED : STRAIGHT;
            text.append(Check.spectrum("119", 1, java.util.Arrays.copyOf(ions, Math.abs(score))));
        }
        PeptideSearch x = Check.withLetters();
        Check.proteins(x, ">n\nABCD\n");
        Check.spectra(x, text.toString());
        x.search();
        return x;
    }

    private static void rate(PeptideSearch x, int spectrum, int p, int q) {
        CHECK.due("p of " + spectrum, x.rate(spectrum, 0), p);
        CHECK.due("q of " + spectrum, x.rate(spectrum, 1), q);
    }

    private static void rates() {
        PeptideSearch x = scored(3, 2, -2, 1, -1, -1);
        rate(x, 0, 0, 1);
        rate(x, 1, 1, 2);
        rate(x, 2, 1, 2);
        rate(x, 3, 1, 1);
        rate(x, 5, 1, 1);
        PeptideSearch thirds = scored(6, 6, 6, -6, 0);
        rate(thirds, 0, 1, 3);
        rate(thirds, 3, 1, 3);
        CHECK.throwing("no match", Check.ELEMENT, () -> thirds.rate(4, 0));
    }

    private static void leastRates() {
        PeptideSearch x = scored(1, 1, 1, 1, -3);
        rate(x, 4, 1, 4);
        rate(x, 0, 1, 4);
        PeptideSearch y = scored(5, 3, 3, -4, -4, -2, 1, 1, 1, 1);
        rate(y, 0, 0, 1);
        rate(y, 3, 3, 7);
        rate(y, 5, 3, 7);
        PeptideSearch z = scored(4, 4, 4, -4, -2, 1);
        rate(z, 0, 1, 3);
        rate(z, 4, 1, 2);
    }

    private static void shortenedRates() {
        rate(scored(2, 2, 2, 2, -2, -2), 0, 1, 2);
        rate(scored(2, 2, 2, 2, 2, 2, -2, -2, -2, -2), 9, 2, 3);
        rate(scored(2, 2, 2, 2, 2, 2, 2, 2, 2, -2, -2, -2), 0, 1, 3);
        rate(scored(2, 2, -2, -2), 0, 1, 1);
        rate(scored(2, 2, 2, 2), 0, 0, 1);
    }

    private static void ratesOfOne() {
        rate(scored(1, -1, -1), 0, 1, 1);
        rate(scored(-1, -1), 1, 1, 1);
        rate(scored(-5), 0, 1, 1);
    }

    private static void rateExceptions() {
        PeptideSearch x = scored(1, 0);
        CHECK.throwing("spectrum 2", Check.INDEX, () -> x.rate(2, 5));
        CHECK.throwing("spectrum -1", Check.INDEX, () -> x.rate(-1, 0));
        CHECK.throwing("which 2", Check.ARGUMENT, () -> x.rate(0, 2));
        CHECK.throwing("which -1", Check.ARGUMENT, () -> x.rate(0, -1));
        CHECK.throwing("which before none", Check.ARGUMENT, () -> x.rate(1, 2));
        CHECK.throwing("none", Check.ELEMENT, () -> x.rate(1, 1));
        for (int far : FAR) {
            CHECK.throwing("spectrum " + far, Check.INDEX, () -> x.rate(far, 0));
            CHECK.throwing("which " + far, Check.ARGUMENT, () -> x.rate(0, far));
        }
        x.limits(0, 0);
        CHECK.throwing("state first", Check.STATE, () -> x.rate(9, 9));
    }

    private static void accepted() {
        PeptideSearch x = scored(3, 3, 3, -3);
        CHECK.due("at 1/3", x.explain(1, 3), 1);
        CHECK.due("at 2/6", x.explain(2, 6), 1);
        CHECK.due("at 333/1000", x.explain(333, 1000), 0);
        CHECK.due("at 334/1000", x.explain(334, 1000), 1);
        CHECK.due("at 1000/1", x.explain(1000, 1), 1);
        CHECK.due("at 0", x.explain(0, 1000), 0);
        CHECK.due("a turned one is not accepted", scored(-3).explain(1, 1), 0);
        CHECK.due("no match is not accepted", scored(0).explain(1, 1), 0);
        CHECK.due("at 0 if the rate is", scored(3).explain(0, 1), 1);
        PeptideSearch none = new PeptideSearch();
        none.search();
        CHECK.due("nothing to explain", none.explain(1, 1), 0);
    }

    /** Peptides AxK, each with a spectrum of its mass and of the ions A and Ax. */
    private static PeptideSearch explained(String peptides, String... proteins) {
        StringBuilder text = new StringBuilder();
        for (String protein : proteins) {
            text.append(">n\n").append(protein).append('\n');
        }
        PeptideSearch x = Check.withLetters();
        Check.proteins(x, text.toString());
        StringBuilder spectra = new StringBuilder();
        for (char c : peptides.toCharArray()) {
            int mass = 10 * (c - 'A' + 1);
            spectra.append(Check.spectrum(String.valueOf(89 + mass), 1, "11", String.valueOf(11 + mass)));
        }
        Check.spectra(x, spectra.toString());
        CHECK.due("all are found", x.search(), peptides.length());
        return x;
    }

    private static void peptidesOfSeveral() {
        PeptideSearch x = explained("BC", "ABK", "ABKACK", "ACK");
        CHECK.due("ABK is found in the first", x.match(0, 1), 0);
        CHECK.due("the second explains both", x.explain(1, 1), 2);
        CHECK.due("each its own", explained("BCD", "ABK", "ACK", "ADK").explain(1, 1), 7);
        CHECK.due("the same twice", explained("BB", "EK", "ABK", "ABK").explain(1, 1), 2);
    }

    private static void fewestFirst() {
        PeptideSearch x = explained("BCDE", "ABK", "ABKACK", "ADK", "AEK", "ADKAEK");
        CHECK.due("two are fewer", x.explain(1, 1), 2 + 16);
        PeptideSearch greedy = explained("ABCDE", "AAKABKACK", "AAKADK", "ABKACKAEKADK", "AEK");
        CHECK.due("the fewest", greedy.explain(1, 1), 1 << 2 | 1);
    }

    private static void leastNumberFirst() {
        CHECK.due("0 and 2", explained("BCD", "ABK", "ABKACK", "ACKADK", "ADK").explain(1, 1), 5);
        CHECK.due("0 and 3, not 1 and 2", explained("BCDE", "ABKACK", "ABKADK", "ACKAEK", "ADKAEK").explain(1, 1), 9);
        CHECK.due("0 and 4, not 1 and 2", explained("BCDE", "ABKACK", "ABKADK", "ACKAEK", "ADK", "ADKAEK")
            .explain(1, 1), 17);
    }

    private static void onlyPeptidesExplain() {
        CHECK.due("a stop", explained("B", "ABKPC", "ABK").explain(1, 1), 2);
        CHECK.due("part of a piece", explained("B", "CABKC", "ABK").explain(1, 1), 2);
        PeptideSearch turned = Check.withLetters();
        Check.proteins(turned, ">n\nCBA\n>m\nABC\n");
        Check.spectra(turned, Check.spectrum("79", 1, "11", "31", "49", "69"));
        turned.search();
        CHECK.due("turned letters", turned.explain(1, 1), 2);
        PeptideSearch changed = Check.withLetters();
        Check.proteins(changed, ">n\nABC\n>m\nABC\n");
        Check.spectra(changed, Check.spectrum("84", 1, "16", "36"));
        changed.limits(0, 1);
        changed.change(0, 0, 5000000);
        changed.search();
        CHECK.due("changes do not matter", changed.explain(1, 1), 1);
        PeptideSearch missed = Check.withLetters();
        Check.proteins(missed, ">n\nBKAK\n>m\nBKAKBK\n>l\nAKBKAK\n");
        missed.limits(1, 0);
        Check.spectra(missed, Check.spectrum("169", 1, "21", "81") + Check.spectrum("169", 1, "11", "71"));
        missed.search();
        CHECK.due("with places between", missed.explain(1, 1), 2);
    }

    private static void twelveProteins() {
        String[] proteins = new String[12];
        java.util.Arrays.fill(proteins, "EK");
        proteins[11] = "ABK";
        CHECK.due("the last one", explained("B", proteins).explain(1, 1), 1 << 11);
        proteins[10] = "ABKACK";
        CHECK.due("the last but one", explained("BC", proteins).explain(1, 1), 1 << 10);
    }

    private static void explainExceptions() {
        PeptideSearch x = scored(1);
        for (int wrong : new int[] {-1, 1001, FAR[0], FAR[1]}) {
            CHECK.throwing("p " + wrong, Check.ARGUMENT, () -> x.explain(wrong, 1));
        }
        for (int wrong : new int[] {-1, 0, 1001, FAR[0], FAR[1]}) {
            CHECK.throwing("q " + wrong, Check.ARGUMENT, () -> x.explain(1, wrong));
        }
        x.limits(0, 0);
        CHECK.throwing("the number first", Check.ARGUMENT, () -> x.explain(1, 0));
        CHECK.throwing("state", Check.STATE, () -> x.explain(1, 1));
    }
}
