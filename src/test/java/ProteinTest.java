/** Which places, peptides and forms there are and which are none: "Terms" and promises 11 to 16. */
public final class ProteinTest {
    private static final Check CHECK = new Check();

    public static void main(String[] args) {
        CHECK.holds("PLACES are 0, n", ProteinTest::outerPlaces);
        CHECK.holds("and i (0 < i < n) if letter i - 1 cuts and letter i does not stop", ProteinTest::innerPlaces);
        CHECK.holds("A peptide goes from one place to another one", ProteinTest::fromPlaceToPlace);
        CHECK.holds("with at most MISSED places between them", ProteinTest::missedPlaces);
        CHECK.holds("and has 1 to 30 letters", ProteinTest::lengths);
        CHECK.holds("and has 1 to 30 letters: with places between", ProteinTest::lengthsWithPlaces);
        CHECK.holds("The TURNED protein has its letters from the last to the first", ProteinTest::turnedLetters);
        CHECK.holds("and peptides likewise", ProteinTest::turnedPeptides);
        CHECK.holds("peptide: by where they begin, then by how many letters they have", ProteinTest::order);
        CHECK.holds("size: peptides it has (2), peptides it has when it is turned (3)", ProteinTest::sizes);
        CHECK.holds("some of its letters, at most MOST of them, are CHANGED", ProteinTest::mostChanged);
        CHECK.holds("each by a change of its letter", ProteinTest::changesOfLetter);
        CHECK.holds("It WEIGHS the masses of its letters, WATER, and its changes", ProteinTest::weighs);
        CHECK.holds("forms with a letter that is not known ... are none", ProteinTest::unknownLetters);
        CHECK.holds("forms ... that weigh 0 or less, are none", ProteinTest::lightForms);
        CHECK.holds("forms ... that weigh 0 or less, are none: with two changes", ProteinTest::lightPairs);
        CHECK.holds("peptide: how many forms it has (2)", ProteinTest::mostForms);
        CHECK.holds("weight: What the form of peptide i without changes weighs", ProteinTest::weightsWithout);
        CHECK.holds("weight: 0 if there is none", ProteinTest::noWeight);
        CHECK.holds("A SPECTRUM'S mass is CHARGE times (PEPMASS less PROTON)", ProteinTest::spectrumMasses);
        CHECK.holds("peak: A spectrum's mass (i = NONE), or its peak i", ProteinTest::peaks);
        CHECK.end();
    }

    private static PeptideSearch of(String letters) {
        PeptideSearch x = Check.withLetters();
        Check.proteins(x, ">n\n" + letters + "\n");
        return x;
    }

    /** Begins and letters of all peptides, in their order. */
    private static void pieces(String what, PeptideSearch x, boolean turned, int... want) {
        CHECK.due(what + ": how many", x.size(0, turned ? 3 : 2), want.length / 2);
        for (int i = 0; i < want.length / 2; i++) {
            CHECK.due(what + ": begin of " + i, x.peptide(0, turned, i, 0), want[2 * i]);
            CHECK.due(what + ": letters of " + i, x.peptide(0, turned, i, 1), want[2 * i + 1]);
        }
        CHECK.throwing(what + ": no more", Check.INDEX, () -> x.peptide(0, turned, want.length / 2, 0));
    }

    private static int forms(PeptideSearch x) {
        return x.peptide(0, false, 0, 2);
    }

    private static void outerPlaces() {
        pieces("one letter", of("A"), false, 0, 1);
        pieces("one letter that cuts", of("K"), false, 0, 1);
        pieces("one letter that stops", of("P"), false, 0, 1);
        pieces("the first stops", of("PA"), false, 0, 2);
        pieces("the last cuts", of("AK"), false, 0, 2);
        PeptideSearch x = of("AK");
        x.limits(3, 0);
        pieces("the last cuts, places may be missed", x, false, 0, 2);
    }

    private static void innerPlaces() {
        pieces("cuts, does not stop", of("AKA"), false, 0, 2, 2, 1);
        pieces("cuts, stops", of("AKP"), false, 0, 3);
        pieces("does not cut, does not stop", of("AAA"), false, 0, 3);
        pieces("does not cut, stops", of("AAP"), false, 0, 3);
        pieces("behind the first letter", of("KAA"), false, 0, 1, 1, 2);
        pieces("before the last letter", of("AAKA"), false, 0, 3, 3, 1);
        pieces("one cuts, the next one too", of("KKA"), false, 0, 1, 1, 1, 2, 1);
        pieces("stopped, then cut", of("KPKA"), false, 0, 3, 3, 1);
        PeptideSearch x = of("KKP");
        x.letter('K' - 'A', 1, true, true);
        pieces("a letter that cuts and stops", x, false, 0, 3);
        PeptideSearch y = of("AKKA");
        y.letter('K' - 'A', 1, true, true);
        pieces("it cuts before one that does not stop", y, false, 0, 3, 3, 1);
    }

    private static void fromPlaceToPlace() {
        PeptideSearch x = of("AAKBBBKC");
        pieces("three pieces", x, false, 0, 3, 3, 4, 7, 1);
        x.limits(3, 0);
        pieces("all of them", x, false, 0, 3, 0, 7, 0, 8, 3, 4, 3, 5, 7, 1);
    }

    /** Five pieces of 1 letter: with MISSED m, peptides have up to m + 1 letters. */
    private static void missedPlaces() {
        for (int missed = 0; missed <= 3; missed++) {
            PeptideSearch x = of("KKKKK");
            x.limits(missed, 0);
            int i = 0;
            for (int begin = 0; begin < 5; begin++) {
                for (int length = 1; length <= missed + 1 && begin + length <= 5; length++) {
                    CHECK.due("begin with " + missed, x.peptide(0, false, i, 0), begin);
                    CHECK.due("letters with " + missed, x.peptide(0, false, i, 1), length);
                    i++;
                }
            }
            CHECK.due("peptides with " + missed, x.size(0, 2), i);
        }
    }

    private static void lengths() {
        pieces("1 letter", of("A"), false, 0, 1);
        pieces("29 letters", of(Check.repeated("A", 29)), false, 0, 29);
        pieces("30 letters", of(Check.repeated("A", 30)), false, 0, 30);
        pieces("30 letters turned", of(Check.repeated("A", 30)), true, 0, 30);
        pieces("31 letters", of(Check.repeated("A", 31)), false);
        pieces("31 letters turned", of(Check.repeated("A", 31)), true);
        pieces("60 letters", of(Check.repeated("A", 60)), false);
        PeptideSearch x = of(Check.repeated("A", 31));
        CHECK.throwing("weight of none", Check.INDEX, () -> x.weight(0, false, 0));
        Check.spectra(x, Check.spectrum("329", 1, "11"));
        x.windows(1000000, 0);
        CHECK.due("no match of none", x.search(), 0);
        CHECK.due("no candidates of none", x.candidates(0), 0);
        PeptideSearch y = of(Check.repeated("A", 30));
        Check.spectra(y, Check.spectrum("319", 1, "11"));
        CHECK.due("a match of 30", y.search(), 1);
        CHECK.due("letters of it", y.match(0, 4), 30);
        CHECK.due("its last letter", y.changed(0, 29), -1);
        CHECK.throwing("behind its last letter", Check.INDEX, () -> y.changed(0, 30));
    }

    private static void lengthsWithPlaces() {
        String fifteen = Check.repeated("A", 14) + "K";
        PeptideSearch x = of(fifteen + fifteen + "A");
        x.limits(3, 0);
        pieces("15 and 15, and 1", x, false, 0, 15, 0, 30, 15, 15, 15, 16, 30, 1);
        PeptideSearch y = of(fifteen + "A" + fifteen);
        y.limits(3, 0);
        pieces("15 and 16", y, false, 0, 15, 15, 16);
        PeptideSearch z = of(Check.repeated("A", 30) + "K" + Check.repeated("A", 29));
        z.limits(3, 0);
        pieces("31 and 29", z, false, 31, 29);
        pieces("29 and 31 turned", z, true, 0, 30, 30, 30);
    }

    private static void turnedLetters() {
        PeptideSearch x = of("ABKPZ");
        int[] letters = {0, 1, 10, 15, 25};
        for (int i = 0; i < 5; i++) {
            CHECK.due("letter " + i, x.residue(0, false, i), letters[i]);
            CHECK.due("turned letter " + i, x.residue(0, true, i), letters[4 - i]);
        }
        CHECK.throwing("behind the last turned one", Check.INDEX, () -> x.residue(0, true, 5));
        CHECK.throwing("before the first turned one", Check.INDEX, () -> x.residue(0, true, -1));
        CHECK.due("one letter turned", of("C").residue(0, true, 0), 2);
    }

    /** Its places come from its own letters: a K that cuts behind itself is another place when it is turned. */
    private static void turnedPeptides() {
        pieces("ABKC", of("ABKC"), false, 0, 3, 3, 1);
        pieces("CKBA", of("ABKC"), true, 0, 2, 2, 2);
        pieces("AKP", of("AKP"), false, 0, 3);
        pieces("PKA", of("AKP"), true, 0, 2, 2, 1);
        pieces("PKA", of("PKA"), false, 0, 2, 2, 1);
        pieces("AKP turned from PKA", of("PKA"), true, 0, 3);
        pieces("KA", of("AK"), true, 0, 1, 1, 1);
        pieces("AK", of("KA"), true, 0, 2);
        PeptideSearch x = of("KAKB");
        x.limits(1, 0);
        pieces("BKAK", x, true, 0, 2, 0, 4, 2, 2);
        CHECK.due("weight of BK", x.weight(0, true, 0), 98000000);
        CHECK.due("weight of AK", x.weight(0, true, 2), 88000000);
    }

    private static void order() {
        PeptideSearch x = of("AKBBKCCCK");
        x.limits(2, 0);
        pieces("by begin, then by letters", x, false, 0, 2, 0, 5, 0, 9, 2, 3, 2, 7, 5, 4);
        pieces("turned", x, true, 0, 1, 0, 5, 0, 8, 1, 4, 1, 7, 1, 8, 5, 3, 5, 4, 8, 1);
    }

    private static void sizes() {
        PeptideSearch x = of(Check.repeated("K", 60));
        int[] sizes = {60, 119, 177, 234};
        for (int missed = 0; missed <= 3; missed++) {
            x.limits(missed, 0);
            CHECK.due("most peptides with " + missed, x.size(0, 2), sizes[missed]);
            CHECK.due("most turned ones with " + missed, x.size(0, 3), sizes[missed]);
        }
        CHECK.due("the last one's begin", x.peptide(0, false, 233, 0), 59);
        CHECK.due("the last one's letters", x.peptide(0, true, 233, 1), 1);
        CHECK.due("its weight", x.weight(0, true, 233), 78000000);
        CHECK.throwing("behind the last", Check.INDEX, () -> x.peptide(0, false, 234, 0));
        CHECK.throwing("weight behind the last", Check.INDEX, () -> x.weight(0, true, 234));
        PeptideSearch turned = of("AKPKA");
        CHECK.due("peptides", turned.size(0, 2), 2);
        CHECK.due("turned ones", turned.size(0, 3), 2);
        PeptideSearch other = of("AKPA");
        CHECK.due("peptides of AKPA", other.size(0, 2), 1);
        CHECK.due("of APKA", other.size(0, 3), 2);
    }

    private static void mostChanged() {
        PeptideSearch x = of("AAA");
        x.change(0, 0, 1);
        int[] ofThree = {1, 4, 7};
        for (int most = 0; most <= 2; most++) {
            x.limits(0, most);
            CHECK.due("three letters, MOST " + most, forms(x), ofThree[most]);
        }
        PeptideSearch y = of("AB");
        y.change(0, 0, 1);
        int[] ofOne = {1, 2, 2};
        for (int most = 0; most <= 2; most++) {
            y.limits(0, most);
            CHECK.due("one letter that can be, MOST " + most, forms(y), ofOne[most]);
        }
        PeptideSearch z = of("A");
        z.limits(0, 2);
        z.change(0, 0, 1);
        z.change(1, 0, 2);
        CHECK.due("a letter is changed once", forms(z), 3);
    }

    private static void changesOfLetter() {
        PeptideSearch x = of("ABZ");
        x.letter(25, 1, false, false);
        x.limits(0, 2);
        x.change(0, 2, 1);
        CHECK.due("a change of a letter that is not there", forms(x), 1);
        x.change(0, 0, 1);
        CHECK.due("of the first letter", forms(x), 2);
        x.change(1, 25, 1);
        CHECK.due("and of the last", forms(x), 4);
        x.change(2, 0, 1);
        CHECK.due("two of the first: the same weight, two forms", forms(x), 6);
        x.change(3, 1, 1);
        CHECK.due("and of the one between", forms(x), 1 + 4 + 5);
        x.change(2, -1, 1);
        CHECK.due("a change of none", forms(x), 1 + 3 + 3);
    }

    /** With PARTS 0 a candidate weighs what the spectrum's mass is. */
    private static void weighs() {
        PeptideSearch x = of("AB");
        x.limits(0, 2);
        x.change(0, 0, 1);
        x.change(1, 1, -2);
        Check.spectra(x, Check.spectrum("49", 1) + Check.spectrum("49.000001", 1) + Check.spectrum("48.999998", 1)
            + Check.spectrum("48.999999", 1) + Check.spectrum("49.000002", 1) + Check.spectrum("48.999997", 1));
        x.search();
        int[] want = {2, 2, 2, 2, 0, 0};
        for (int s = 0; s < want.length; s++) {
            CHECK.due("candidates of " + s, x.candidates(s), want[s]);
        }
    }

    private static void unknownLetters() {
        for (String letters : new String[] {"XAA", "AXA", "AAX", "X"}) {
            PeptideSearch x = of(letters);
            x.limits(0, 2);
            x.change(0, 0, 1);
            x.change(1, 'X' - 'A', 1000000);
            CHECK.due("forms of " + letters, forms(x), 0);
            CHECK.due("turned forms of " + letters, x.peptide(0, true, 0, 2), 0);
            CHECK.due("weight of " + letters, x.weight(0, false, 0), 0);
            Check.spectra(x, Check.spectrum("39", 1, "11"));
            x.windows(1000000, 1000000000);
            CHECK.due("matches of " + letters, x.search(), 0);
            CHECK.due("candidates of " + letters, x.candidates(0), 0);
            x.letter('X' - 'A', 1, false, false);
            CHECK.due("forms of " + letters + ", the least mass", forms(x), letters.length() == 1 ? 2 : 1 + 3 + 3);
        }
        PeptideSearch y = of("AXKB");
        CHECK.due("forms of another peptide", y.peptide(0, false, 1, 2), 1);
        unknownBehindKnown();
    }

    /** With A changed, only AXC would weigh 50, if X weighed nothing. */
    private static void unknownBehindKnown() {
        PeptideSearch x = Check.withLetters();
        Check.proteins(x, ">n\nABC\n>m\nAXC\n");
        Check.spectra(x, Check.spectrum("51", 1, "61", "81"));
        x.change(0, 0, 50000000);
        x.extras(0, 1000000);
        x.limits(0, 1);
        CHECK.due("matches", x.search(), 0);
        CHECK.due("candidates", x.candidates(0), 0);
    }

    /** A weighs 28 with water. */
    private static void lightForms() {
        PeptideSearch x = of("A");
        x.limits(0, 1);
        int[] mores = {-27999999, -28000000, -28000001, -1000000000};
        int[] want = {2, 1, 1, 1};
        Check.spectra(x, Check.spectrum("1.000001", 1) + Check.spectrum("28", 1));
        x.windows(1000000, 0);
        for (int k = 0; k < mores.length; k++) {
            x.change(0, 0, mores[k]);
            CHECK.due("forms with " + mores[k], forms(x), want[k]);
            x.search();
            CHECK.due("candidates of 1 with " + mores[k], x.candidates(0), 2 * (want[k] - 1));
            CHECK.due("candidates of 27 with " + mores[k], x.candidates(1), 2 * want[k]);
            CHECK.due("weight with " + mores[k], x.weight(0, false, 0), 28000000);
        }
    }

    private static void lightPairs() {
        PeptideSearch x = of("AB");
        x.limits(0, 2);
        x.change(0, 0, -24000000);
        x.change(1, 1, -24000000);
        CHECK.due("a pair that weighs 0", forms(x), 3);
        x.change(1, 1, -23999999);
        CHECK.due("a pair that weighs 1", forms(x), 4);
        x.change(1, 1, -24000001);
        CHECK.due("a pair that weighs less than 0", forms(x), 3);
        x.change(0, 0, -1000000000);
        x.change(1, 1, 1000000000);
        CHECK.due("a pair that weighs more than its first change allows", forms(x), 3);
        x.change(1, 1, 952000001);
        CHECK.due("a pair that weighs 1 so", forms(x), 3);
        x.change(1, 1, 952000000);
        CHECK.due("a pair that weighs 0 so", forms(x), 2);
    }

    private static void mostForms() {
        PeptideSearch x = of(Check.repeated("A", 30));
        for (int c = 0; c < 4; c++) {
            x.change(c, 0, c);
        }
        x.limits(0, 0);
        CHECK.due("without changes", forms(x), 1);
        x.limits(0, 1);
        CHECK.due("with one", forms(x), 1 + 30 * 4);
        x.limits(0, 2);
        CHECK.due("with two", forms(x), 1 + 30 * 4 + 435 * 16);
        CHECK.due("turned", x.peptide(0, true, 0, 2), 1 + 30 * 4 + 435 * 16);
        Check.spectra(x, Check.spectrum("319", 1));
        x.windows(1000000, 0);
        x.search();
        CHECK.due("candidates", x.candidates(0), 2 * (1 + 30 * 4 + 435 * 16));
    }

    private static void weightsWithout() {
        PeptideSearch x = of("AAB");
        x.limits(0, 2);
        x.change(0, 0, 1000000);
        CHECK.due("changes do not matter", x.weight(0, false, 0), 58000000);
        PeptideSearch y = of(Check.repeated("Z", 30));
        y.letter(25, 1000000000, false, false);
        y.extras(1000000000, 0);
        CHECK.due("the greatest weight of all", y.weight(0, false, 0), 31000000000L);
        CHECK.due("turned", y.weight(0, true, 0), 31000000000L);
        y.letter(25, 1, false, false);
        y.extras(0, 0);
        CHECK.due("thirty of the least", y.weight(0, false, 0), 30);
        Check.proteins(y, ">n\nZ\n");
        CHECK.due("the least weight of all", y.weight(0, false, 0), 1);
    }

    private static void noWeight() {
        PeptideSearch x = of("AKXKB");
        CHECK.due("before it", x.weight(0, false, 0), 88000000);
        CHECK.due("a letter that is not known", x.weight(0, false, 1), 0);
        CHECK.due("behind it", x.weight(0, false, 2), 38000000);
        CHECK.throwing("no peptide", Check.INDEX, () -> x.weight(0, false, 3));
        x.letter(0, 0, false, false);
        CHECK.due("not known any more", x.weight(0, false, 0), 0);
        x.extras(0, 0);
        CHECK.due("without water", x.weight(0, false, 1), 0);
    }

    private static void spectrumMasses() {
        PeptideSearch x = new PeptideSearch();
        Check.spectra(x, Check.spectrum("1", 5) + Check.spectrum("1.000001", 1) + Check.spectrum("1.000001", 5)
            + Check.spectrum("0.999999", 5) + Check.spectrum("99999.999999", 5) + Check.spectrum("0", 5));
        long[] masses = {0, 1, 5, -5, 499994999995L, -5000000};
        for (int s = 0; s < masses.length; s++) {
            CHECK.due("mass of " + s, x.peak(s, -1), masses[s]);
        }
        x.extras(0, 0);
        CHECK.due("the greatest mass of all", x.peak(4, -1), 499999999995L);
        CHECK.due("a mass of nothing", x.peak(5, -1), 0);
        x.extras(0, 1000000000);
        CHECK.due("the least mass of all", x.peak(5, -1), -5000000000L);
    }

    private static void peaks() {
        PeptideSearch x = new PeptideSearch();
        Check.spectra(x, Check.spectrum("5", 1, "9", "0", "99999.999999", "9") + Check.spectrum("6", 1));
        long[] peaks = {9000000, 0, 99999999999L, 9000000};
        for (int i = 0; i < peaks.length; i++) {
            CHECK.due("peak " + i, x.peak(0, i), peaks[i]);
        }
        CHECK.due("mass", x.peak(0, -1), 4000000);
        CHECK.throwing("peak 4", Check.INDEX, () -> x.peak(0, 4));
        CHECK.throwing("peak -2", Check.INDEX, () -> x.peak(0, -2));
        CHECK.due("mass of one without peaks", x.peak(1, -1), 5000000);
        CHECK.throwing("peak 0 of none", Check.INDEX, () -> x.peak(1, 0));
    }
}
