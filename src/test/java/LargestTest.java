/** As much of everything as the document allows: twelve proteins of 60 letters, twelve spectra, most forms. */
public final class LargestTest {
    private static final Check CHECK = new Check();
    private static final int MANY = 12;

    public static void main(String[] args) {
        mostForms();
        mostPeptides();
        CHECK.end();
    }

    private static String[] peaks() {
        String[] peaks = new String[20];
        for (int k = 0; k < peaks.length; k++) {
            peaks[k] = String.valueOf(11 + 7 * k);
        }
        return peaks;
    }

    private static PeptideSearch largest(String letters) {
        PeptideSearch x = Check.withLetters();
        Check.proteins(x, Check.repeated(">p\n" + letters + "\n", MANY));
        Check.spectra(x, Check.repeated(Check.spectrum("1000", 1, peaks()), MANY));
        x.limits(3, 2);
        x.windows(1000000, 1000000);
        for (int c = 0; c < 4; c++) {
            x.change(c, 0, 1000000 * (c + 1));
        }
        return x;
    }

    private static int forms(int changeable) {
        return 1 + 4 * changeable + 16 * changeable * (changeable - 1) / 2;
    }

    /** Pieces of six A and a K, up to four of them in a peptide; turned, the last K and the last As are pieces. */
    private static void mostForms() {
        PeptideSearch x = largest(Check.repeated("AAAAAAK", 8) + "AAAA");
        int straight = 0;
        for (int from = 0; from < 9; from++) {
            for (int to = from + 1; to <= Math.min(9, from + 4); to++) {
                straight += forms(6 * (to - from) - (to == 9 ? 2 : 0));
            }
        }
        int turned = 0;
        for (int from = 0; from < 9; from++) {
            for (int to = from + 1; to <= Math.min(9, from + 4); to++) {
                turned += forms(6 * (to - from) - (from == 0 ? 2 : 0));
            }
        }
        CHECK.due("all match", x.search(), MANY);
        for (int s = 0; s < MANY; s++) {
            CHECK.due("candidates of " + s, x.candidates(s), MANY * (straight + turned));
            CHECK.due("protein of " + s, x.match(s, 1), 0);
            CHECK.due("turned of " + s, x.match(s, 2), 0);
            CHECK.due("rate of " + s, x.rate(s, 0), 0);
        }
        CHECK.due("one explains all", x.explain(0, 1), 1);
    }

    private static void mostPeptides() {
        PeptideSearch x = largest(Check.repeated("K", 60));
        x.change(0, 10, 1000000);
        CHECK.due("all match", x.search(), MANY);
        int ofProtein = 60 * (1 + 1) + 59 * (1 + 2 + 1) + 58 * (1 + 3 + 3) + 57 * (1 + 4 + 6);
        CHECK.due("candidates", x.candidates(MANY - 1), 2 * MANY * ofProtein);
        CHECK.due("one explains all", x.explain(1, 1), 1);
    }
}
