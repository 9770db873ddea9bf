/** What a new object has, and what the least and the greatest numbers that can be set do: promises 1 and 5 to 10. */
public final class SettingsTest {
    private static final Check CHECK = new Check();
    private static final int A = 0;
    private static final int B = 1;
    private static final int C = 2;
    private static final int Z = 25;
    private static final int GREATEST = 1000000000;

    public static void main(String[] args) {
        CHECK.holds("A new object: No text", SettingsTest::noText);
        CHECK.holds("A new object: No ... proteins", SettingsTest::noProteins);
        CHECK.holds("A new object: No ... spectra", SettingsTest::noSpectra);
        CHECK.holds("A new object: No ... changes", SettingsTest::noChanges);
        CHECK.holds("A new object: MISSED ... 0", SettingsTest::missedAtFirst);
        CHECK.holds("A new object: MOST ... 0", SettingsTest::mostAtFirst);
        CHECK.holds("A new object: PARTS ... 0", SettingsTest::partsAtFirst);
        CHECK.holds("A new object: NEAR ... 0", SettingsTest::nearAtFirst);
        CHECK.holds("LETTERS A .. Z have masses (0 at first: not known)", SettingsTest::massesAtFirst);
        CHECK.holds("some CUT, some STOP a cut (none at first)", SettingsTest::cutsAtFirst);
        CHECK.holds("WATER is 18000000 at first", SettingsTest::waterAtFirst);
        CHECK.holds("PROTON 1000000 at first", SettingsTest::protonAtFirst);
        CHECK.holds("letter: A letter (0 .. 25): its mass", SettingsTest::letterMasses);
        CHECK.holds("letter: whether it cuts, whether it stops", SettingsTest::letterCuts);
        CHECK.holds("change: A change: its letter (NONE: there is none)", SettingsTest::changeLetters);
        CHECK.holds("change: and what it weighs more", SettingsTest::changeMores);
        CHECK.holds("limits: MISSED 0 .. 3", SettingsTest::missed);
        CHECK.holds("limits: MOST 0 .. 2", SettingsTest::most);
        CHECK.holds("windows: PARTS 0 .. 1000000", SettingsTest::parts);
        CHECK.holds("windows: NEAR 0 .. 1000000000", SettingsTest::near);
        CHECK.holds("extras: WATER 0 .. 1000000000", SettingsTest::water);
        CHECK.holds("extras: PROTON 0 .. 1000000000", SettingsTest::proton);
        CHECK.holds("count: How many proteins (which = 0), spectra (1) there are", SettingsTest::counts);
        CHECK.holds("objects do not share what is set", SettingsTest::twoObjects);
        CHECK.end();
    }

    private static PeptideSearch withProtein(String letters) {
        PeptideSearch x = new PeptideSearch();
        Check.proteins(x, ">n\n" + letters + "\n");
        return x;
    }

    private static void noText() {
        CHECK.due("the first characters", new PeptideSearch().type(0x4141, 2), 2);
        CHECK.due("proteins of it", new PeptideSearch().read(0), 0);
        CHECK.due("spectra of it", new PeptideSearch().read(1), 0);
        CHECK.due("no read, no place", new PeptideSearch().place(), -1);
    }

    private static void noProteins() {
        PeptideSearch x = new PeptideSearch();
        CHECK.due("proteins", x.count(0), 0);
        CHECK.throwing("residue", Check.INDEX, () -> x.residue(0, false, 0));
        CHECK.throwing("size", Check.INDEX, () -> x.size(0, 0));
        CHECK.throwing("name", Check.INDEX, () -> x.name(0, 0));
        CHECK.throwing("peptide", Check.INDEX, () -> x.peptide(0, false, 0, 0));
        CHECK.throwing("weight", Check.INDEX, () -> x.weight(0, true, 0));
    }

    private static void noSpectra() {
        PeptideSearch x = new PeptideSearch();
        CHECK.due("spectra", x.count(1), 0);
        CHECK.throwing("mass", Check.INDEX, () -> x.peak(0, -1));
        CHECK.throwing("peak", Check.INDEX, () -> x.peak(0, 0));
        CHECK.due("search", x.search(), 0);
        CHECK.throwing("candidates", Check.INDEX, () -> x.candidates(0));
        CHECK.throwing("match", Check.INDEX, () -> x.match(0, 0));
        CHECK.throwing("changed", Check.INDEX, () -> x.changed(0, 0));
        CHECK.throwing("rate", Check.INDEX, () -> x.rate(0, 0));
        CHECK.due("explain", x.explain(1, 1), 0);
    }

    private static void noChanges() {
        PeptideSearch x = withProtein("ABCDEFGHIJKLMNOPQRSTUVWXYZ");
        for (int letter = A; letter <= Z; letter++) {
            x.letter(letter, 1000000, false, false);
        }
        x.limits(0, 2);
        CHECK.due("forms", x.peptide(0, false, 0, 2), 1);
        x.change(0, Z, 0);
        CHECK.due("forms with one change", x.peptide(0, false, 0, 2), 2);
    }

    private static void missedAtFirst() {
        PeptideSearch x = withProtein("AAA");
        x.letter(A, 5, true, false);
        CHECK.due("peptides", x.size(0, 2), 3);
        x.limits(1, 0);
        CHECK.due("peptides with 1", x.size(0, 2), 5);
    }

    private static void mostAtFirst() {
        PeptideSearch x = withProtein("AAA");
        x.letter(A, 5, false, false);
        x.change(0, A, 7);
        CHECK.due("forms", x.peptide(0, false, 0, 2), 1);
        x.limits(0, 1);
        CHECK.due("forms with 1", x.peptide(0, false, 0, 2), 4);
    }

    private static void partsAtFirst() {
        PeptideSearch x = withProtein("A");
        x.letter(A, 2000000, false, false);
        Check.spectra(x, Check.spectrum("20.999999", 1) + Check.spectrum("21", 1) + Check.spectrum("21.000001", 1));
        x.search();
        CHECK.due("less", x.candidates(0), 0);
        CHECK.due("that very mass", x.candidates(1), 2);
        CHECK.due("more", x.candidates(2), 0);
        x.windows(1, 0);
        x.search();
        CHECK.due("with 1", x.candidates(0) + x.candidates(2), 4);
    }

    private static void nearAtFirst() {
        PeptideSearch x = withProtein("AA");
        x.letter(A, 1000000, false, false);
        Check.spectra(x, Check.spectrum("21", 1, "2", "20.000001"));
        x.search();
        CHECK.due("that very ion", x.match(0, 0), 1);
        x.windows(0, 1);
        x.search();
        CHECK.due("with 1", x.match(0, 0), 2);
    }

    private static void massesAtFirst() {
        for (int letter = A; letter <= Z; letter++) {
            PeptideSearch x = withProtein(String.valueOf((char) ('A' + letter)));
            CHECK.due("weight of " + letter, x.weight(0, false, 0), 0);
            CHECK.due("forms of " + letter, x.peptide(0, false, 0, 2), 0);
            x.letter(letter, 1, false, false);
            CHECK.due("known weight of " + letter, x.weight(0, false, 0), 18000001);
            CHECK.due("known forms of " + letter, x.peptide(0, false, 0, 2), 1);
        }
    }

    /** Only A cuts then: before each letter, none of which stops. */
    private static void cutsAtFirst() {
        for (int letter = B; letter <= Z; letter++) {
            char c = (char) ('A' + letter);
            PeptideSearch x = withProtein("A" + c + c);
            CHECK.due("none cuts, " + c, x.size(0, 2), 1);
            x.letter(A, 0, true, false);
            CHECK.due("none stops, " + c, x.size(0, 2), 2);
            x.letter(letter, 0, false, true);
            CHECK.due("one stops, " + c, x.size(0, 2), 1);
        }
    }

    private static void waterAtFirst() {
        PeptideSearch x = withProtein("A");
        x.letter(A, 1, false, false);
        CHECK.due("weight", x.weight(0, false, 0), 18000001);
    }

    private static void protonAtFirst() {
        PeptideSearch x = new PeptideSearch();
        Check.spectra(x, Check.spectrum("1", 3) + Check.spectrum("2", 3));
        CHECK.due("a mass of 0", x.peak(0, -1), 0);
        CHECK.due("a mass", x.peak(1, -1), 3000000);
    }

    private static void letterMasses() {
        PeptideSearch x = withProtein("AZ");
        x.letter(A, GREATEST, false, false);
        CHECK.due("Z is not known", x.weight(0, false, 0), 0);
        x.letter(Z, GREATEST, false, false);
        CHECK.due("the greatest masses", x.weight(0, false, 0), 2018000000L);
        x.letter(Z, 1, false, false);
        CHECK.due("the least mass that is known", x.weight(0, false, 0), 1018000001);
        x.letter(Z, 0, false, false);
        CHECK.due("a mass of 0", x.weight(0, false, 0), 0);
        CHECK.due("no forms", x.peptide(0, false, 0, 2), 0);
    }

    private static void letterCuts() {
        PeptideSearch x = withProtein("BABB");
        x.letter(A, 1, true, false);
        CHECK.due("A cuts", x.size(0, 2), 2);
        x.letter(B, 1, false, true);
        CHECK.due("B stops", x.size(0, 2), 1);
        x.letter(B, 1, true, false);
        CHECK.due("A and B cut", x.size(0, 2), 4);
        x.letter(A, 1, false, true);
        CHECK.due("B cuts, A stops", x.size(0, 2), 2);
        x.letter(A, 1, false, false);
        x.letter(B, 1, false, false);
        CHECK.due("none cuts any more", x.size(0, 2), 1);
    }

    private static void changeLetters() {
        PeptideSearch x = withProtein("AZ");
        x.letter(A, 1, false, false);
        x.letter(Z, 1, false, false);
        x.limits(0, 2);
        x.change(0, A, 0);
        CHECK.due("the first change of the first letter", x.peptide(0, false, 0, 2), 2);
        x.change(3, Z, 0);
        CHECK.due("the last change of the last letter", x.peptide(0, false, 0, 2), 4);
        x.change(3, A, 0);
        CHECK.due("it has another letter then", x.peptide(0, false, 0, 2), 3);
        x.change(0, -1, 0);
        CHECK.due("the first one has none", x.peptide(0, false, 0, 2), 2);
        x.change(3, -1, GREATEST);
        CHECK.due("none has one", x.peptide(0, false, 0, 2), 1);
    }

    private static void changeMores() {
        PeptideSearch x = withProtein("A");
        x.letter(A, GREATEST, false, false);
        x.limits(0, 1);
        Check.spectra(x, Check.spectrum("2019", 1) + Check.spectrum("19", 1) + Check.spectrum("1019", 1));
        int[] mores = {GREATEST, -GREATEST, 0};
        for (int k = 0; k < 3; k++) {
            x.change(2, A, mores[k]);
            x.search();
            for (int s = 0; s < 2; s++) {
                CHECK.due("more " + mores[k] + ", spectrum " + s, x.candidates(s), s == k ? 2 : 0);
            }
            CHECK.due("more " + mores[k] + ", that without", x.candidates(2), k == 2 ? 4 : 2);
        }
    }

    private static void missed() {
        PeptideSearch x = withProtein("AAAAAA");
        x.letter(A, 1, true, false);
        int[] sizes = {6, 11, 15, 18};
        for (int missed : new int[] {3, 0, 1, 2}) {
            x.limits(missed, 0);
            CHECK.due("peptides with " + missed, x.size(0, 2), sizes[missed]);
            CHECK.due("turned with " + missed, x.size(0, 3), sizes[missed]);
        }
    }

    private static void most() {
        PeptideSearch x = withProtein("AAAA");
        x.letter(A, 1, false, false);
        x.change(1, A, 1);
        int[] forms = {1, 5, 11};
        for (int most : new int[] {2, 0, 1}) {
            x.limits(0, most);
            CHECK.due("forms with " + most, x.peptide(0, false, 0, 2), forms[most]);
            CHECK.due("turned with " + most, x.peptide(0, true, 0, 2), forms[most]);
        }
    }

    /** Forms of 20, spectra of 10 and 9.999999: the greatest PARTS allows a form of twice the mass. */
    private static void parts() {
        PeptideSearch x = withProtein("A");
        x.letter(A, 2000000, false, false);
        Check.spectra(x, Check.spectrum("11", 1) + Check.spectrum("10.999999", 1) + Check.spectrum("21", 1));
        x.windows(1000000, 0);
        x.search();
        CHECK.due("twice the mass", x.candidates(0), 2);
        CHECK.due("more than twice the mass", x.candidates(1), 0);
        CHECK.due("the mass", x.candidates(2), 2);
        x.windows(999999, 0);
        x.search();
        CHECK.due("not quite twice the mass", x.candidates(0), 0);
        x.windows(0, 0);
        x.search();
        CHECK.due("0: the mass", x.candidates(2), 2);
    }

    /** Ions of 1001 and 1019: peaks 1,000 away, and one millionth more. */
    private static void near() {
        String[] peaks = {"1", "0.999999", "2019", "2019.000001", "1001"};
        int[] scores = {1, 0, 1, 0, 2};
        for (int k = 0; k < peaks.length; k++) {
            PeptideSearch x = withProtein("AA");
            x.letter(A, GREATEST, false, false);
            Check.spectra(x, Check.spectrum("2019", 1, peaks[k]));
            x.windows(0, GREATEST);
            x.search();
            CHECK.due("score with " + peaks[k], scores[k] == 0 ? 0 : x.match(0, 0), scores[k]);
            CHECK.throwing("match with " + peaks[k], scores[k] == 0 ? Check.ELEMENT : "nothing", () -> x.match(0, 0));
            x.windows(0, 0);
            CHECK.due("0 with " + peaks[k], x.search(), k == 4 ? 1 : 0);
        }
    }

    private static void water() {
        PeptideSearch x = withProtein("AB");
        x.letter(A, 1, false, false);
        x.letter(B, 2, false, false);
        x.extras(0, 1000000);
        CHECK.due("none", x.weight(0, false, 0), 3);
        Check.spectra(x, Check.spectrum("1.000003", 1, "1.000001", "1.000002"));
        x.search();
        CHECK.due("score without water", x.match(0, 0), 2);
        x.extras(GREATEST, 1000000);
        CHECK.due("most", x.weight(0, false, 0), 1000000003);
        Check.spectra(x, Check.spectrum("1001.000003", 1, "1.000001", "1001.000002"));
        x.search();
        CHECK.due("score with most water", x.match(0, 0), 2);
    }

    private static void proton() {
        PeptideSearch x = withProtein("AB");
        x.letter(A, 1000000, false, false);
        x.letter(B, 2000000, false, false);
        Check.spectra(x, Check.spectrum("21", 1, "1", "20") + Check.spectrum("1021", 1, "1001", "1020"));
        x.extras(18000000, 0);
        CHECK.due("none", x.peak(0, -1), 21000000);
        x.search();
        CHECK.due("score without protons", x.match(0, 0), 2);
        CHECK.due("candidates of the other", x.candidates(1), 0);
        x.extras(18000000, GREATEST);
        CHECK.due("most", x.peak(1, -1), 21000000);
        CHECK.due("most, of less", x.peak(0, -1), -979000000);
        x.search();
        CHECK.due("score with most protons", x.match(1, 0), 2);
        CHECK.due("candidates of less", x.candidates(0), 0);
    }

    private static void counts() {
        PeptideSearch x = new PeptideSearch();
        CHECK.due("no proteins", x.count(0), 0);
        CHECK.due("no spectra", x.count(1), 0);
        Check.proteins(x, ">n\nA\n");
        CHECK.due("one protein", x.count(0), 1);
        CHECK.due("no spectra still", x.count(1), 0);
        Check.spectra(x, Check.repeated(Check.spectrum("1", 1), 12));
        CHECK.due("twelve spectra", x.count(1), 12);
        CHECK.due("one protein still", x.count(0), 1);
        Check.proteins(x, Check.repeated(">n\nA\n", 12));
        CHECK.due("twelve proteins", x.count(0), 12);
    }

    private static void twoObjects() {
        PeptideSearch x = State.searched();
        String before = State.of(x);
        PeptideSearch y = new PeptideSearch();
        y.letter(State.LETTER, 1, true, true);
        y.change(State.CHANGE, C, 1);
        y.limits(3, 2);
        y.windows(0, 0);
        y.extras(0, 0);
        Check.proteins(y, ">n\nA\n");
        Check.spectra(y, Check.spectrum("1", 1));
        y.search();
        CHECK.same("an object behind calls of another one", State.of(x), before);
        x.search();
        CHECK.same("it searched again", State.of(x), before);
        CHECK.same("its text", State.textOf(x), "typed 6; read 1; protein n AB; ");
    }
}
