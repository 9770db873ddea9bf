/** Promises 1 to 4: a new object, type, read, place. */
public final class TextTest {
    private static final Check CHECK = new Check();
    private static final String SPECTRUM = "BEGIN IONS\nPEPMASS=1\nCHARGE=1+\nEND IONS\n";

    public static void main(String[] args) {
        newObject();
        typing();
        typingWrongly();
        noRoom();
        readingAndEmptying();
        wrongReadsLeaveAll();
        readAgainAndAgain();
        proteinPlaces();
        manyProteins();
        spectrumPlaces();
        manySpectra();
        manyPeaks();
        decimals();
        CHECK.end();
    }

    private static void newObject() {
        PeptideSearch x = new PeptideSearch();
        CHECK.due("place() at first", x.place(), -1);
        CHECK.due("proteins at first", x.count(0), 0);
        CHECK.due("spectra at first", x.count(1), 0);
        CHECK.throwing("explain before search", Check.STATE, () -> x.explain(0, 1));
        CHECK.throwing("candidates before search", Check.STATE, () -> x.candidates(0));
        CHECK.due("read of the empty text at first", x.read(0), 0);
        startNumbers();
        Check.proteins(x, ">n\nAKA\n");
        CHECK.due("no letter is known at first", x.weight(0, false, 0), 0);
        CHECK.due("none cuts at first", x.size(0, 2), 1);
    }

    private static void startNumbers() {
        PeptideSearch x = new PeptideSearch();
        x.letter(0, 5, true, false);
        Check.proteins(x, ">n\nAAA\n");
        CHECK.due("MISSED is 0 at first", x.size(0, 2), 3);
        CHECK.due("WATER at first", x.weight(0, false, 0), 18000005);
        Check.spectra(x, Check.spectrum("19.000005", 1, "5"));
        CHECK.due("PROTON at first", x.peak(0, -1), 18000005);
        x.change(0, 0, 7);
        CHECK.due("MOST is 0 at first", x.peptide(0, false, 0, 2), 1);
        x.search();
        CHECK.due("PARTS is 0 at first: that very mass", x.candidates(0), 6);
        Check.spectra(x, Check.spectrum("19.000004", 1, "5"));
        x.search();
        CHECK.due("PARTS is 0 at first: no other mass", x.candidates(0), 0);
        x.letter(0, 1000000, false, false);
        Check.proteins(x, ">n\nAA\n");
        Check.spectra(x, Check.spectrum("21", 1, "2", "20.000001"));
        x.search();
        CHECK.due("NEAR is 0 at first", x.match(0, 0), 1);
        x.windows(0, 1);
        x.search();
        CHECK.due("NEAR is 1", x.match(0, 0), 2);
    }

    private static void typing() {
        PeptideSearch x = new PeptideSearch();
        CHECK.due("the lowest byte is first", x.type(Check.packed(">n\nAB\n"), 6), 6);
        CHECK.due("read", x.read(0), 1);
        CHECK.due("first letter", x.residue(0, false, 0), 0);
        CHECK.due("second letter", x.residue(0, false, 1), 1);
        CHECK.due("other bytes do not matter", x.type(0xFF00000000000041L, 1), 1);
        CHECK.due("behind the text", x.type(-1L << 16 | 0x4242, 2), 3);
        CHECK.due("8 at once", x.type(Check.packed("~       "), 8), 11);
        CHECK.due("character 10", x.type(10, 1), 12);
    }

    private static void typingWrongly() {
        PeptideSearch x = new PeptideSearch();
        x.type(65, 1);
        for (int n : new int[] {0, -1, 9, Integer.MIN_VALUE, Integer.MAX_VALUE}) {
            CHECK.throwing("type of " + n, Check.ARGUMENT, () -> x.type(0x4141414141414141L, n));
        }
        for (int c : new int[] {0, 9, 11, 13, 31, 127, 128, 138, 255}) {
            CHECK.throwing("type character " + c, Check.ARGUMENT, () -> x.type(c, 1));
            CHECK.throwing("type it last: " + c, Check.ARGUMENT, () -> x.type((long) c << 56 | 0x41414141414141L, 8));
        }
        CHECK.due("nothing was typed", x.type(65, 1), 2);
    }

    private static void noRoom() {
        PeptideSearch x = new PeptideSearch();
        for (int k = 1; k < 512; k++) {
            CHECK.due("type " + k, x.type(0x4141414141414141L, 8), 8 * k);
        }
        CHECK.due("7 more", x.type(0x4141414141414141L, 7), 4095);
        CHECK.throwing("no room for 2", Check.STATE, () -> x.type(0x4141, 2));
        CHECK.throwing("a wrong one goes first", Check.ARGUMENT, () -> x.type(9, 2));
        CHECK.due("room for 1", x.type(65, 1), 4096);
        CHECK.throwing("no room for 1", Check.STATE, () -> x.type(65, 1));
        CHECK.due("read", x.read(0), -1);
        CHECK.due("room again", x.type(65, 1), 1);
    }

    private static void readingAndEmptying() {
        PeptideSearch x = new PeptideSearch();
        CHECK.due("proteins", Check.proteins(x, ">n\nA\n>m\nB\nC\n"), 2);
        CHECK.due("place", x.place(), -1);
        CHECK.due("the text is empty", x.type(65, 1), 1);
        CHECK.due("wrong", x.read(1), -1);
        CHECK.due("place", x.place(), 0);
        CHECK.due("the text is empty after NONE", x.type(65, 1), 1);
        CHECK.throwing("read(2)", Check.ARGUMENT, () -> x.read(2));
        CHECK.throwing("read(-1)", Check.ARGUMENT, () -> x.read(-1));
        CHECK.due("place after a throw", x.place(), 0);
        CHECK.due("the text after a throw", x.type(65, 1), 2);
        CHECK.due("place after typing", x.place(), 0);
        x.read(0);
        CHECK.due("spectra", Check.spectra(x, SPECTRUM), 1);
        CHECK.due("place of a good read", x.place(), -1);
        CHECK.due("proteins stay", x.count(0), 2);
        CHECK.due("spectra are there", x.count(1), 1);
        CHECK.due("none", x.read(0), 0);
        CHECK.due("no proteins", x.count(0), 0);
        CHECK.due("spectra stay", x.count(1), 1);
        CHECK.due("none", x.read(1), 0);
        CHECK.due("no spectra", x.count(1), 0);
    }

    private static void wrongReadsLeaveAll() {
        PeptideSearch x = new PeptideSearch();
        Check.proteins(x, ">n\nABC\n>m\nBA\n");
        Check.spectra(x, Check.spectrum("12.5", 2, "3", "4"));
        x.search();
        CHECK.due("a wrong protein behind good ones", Check.proteins(x, ">x\nZ\n>y\nYYYY\n>z\nXX\n>z\n-"), -1);
        CHECK.due("a wrong spectrum", Check.spectra(x, Check.spectrum("7", 5, "8") + "-"), -1);
        CHECK.due("proteins", x.count(0), 2);
        CHECK.due("letters", x.size(0, 0), 3);
        CHECK.due("a letter", x.residue(0, false, 2), 2);
        CHECK.due("a name", x.name(1, 0), 'm');
        CHECK.due("spectra", x.count(1), 1);
        CHECK.due("mass", x.peak(0, -1), 23000000);
        CHECK.due("peak", x.peak(0, 1), 4000000);
        CHECK.due("it is searched still", x.candidates(0), 0);
    }

    /** Nothing of an earlier text is left in a later one. */
    private static void readAgainAndAgain() {
        PeptideSearch x = new PeptideSearch();
        String whole = Check.repeated("A", 60);
        String[] peaks = new String[40];
        java.util.Arrays.fill(peaks, "9");
        for (int k = 0; k < 4; k++) {
            Check.proteins(x, k % 2 == 0 ? ">abcdefghijkl\n" + whole + "\n>b\nB\n" : ">a\nB\n");
            Check.spectra(x, k % 2 == 0 ? Check.spectrum("3", 5, peaks) : Check.spectrum("2", 1, "8"));
        }
        CHECK.due("proteins", x.count(0), 1);
        CHECK.due("letters", x.size(0, 0), 1);
        CHECK.due("a letter", x.residue(0, false, 0), 1);
        CHECK.due("a name", x.size(0, 1), 1);
        CHECK.due("mass", x.peak(0, -1), 1000000);
        CHECK.due("peak", x.peak(0, 0), 8000000);
        CHECK.throwing("one peak", Check.INDEX, () -> x.peak(0, 1));
        Check.proteins(x, ">bc\nCC\n");
        Check.spectra(x, Check.spectrum("4", 2, "6", "5"));
        CHECK.due("letters then", x.size(0, 0), 2);
        CHECK.due("a name then", x.size(0, 1), 2);
        CHECK.due("its second character", x.name(0, 1), 'c');
        CHECK.due("mass then", x.peak(0, -1), 6000000);
        CHECK.due("peak then", x.peak(0, 1), 5000000);
        CHECK.throwing("two peaks", Check.INDEX, () -> x.peak(0, 2));
        for (int end = 1; end < SPECTRUM.length(); end++) {
            Check.spectra(x, SPECTRUM);
            CHECK.due("part of what was read", Check.spectra(x, SPECTRUM.substring(0, end)), -1);
            CHECK.due("place in part of it", x.place(), end);
        }
    }

    private static void proteinPlace(String text, int want) {
        PeptideSearch x = new PeptideSearch();
        String what = "proteins " + text.replace('\n', '/');
        CHECK.due(what, Check.proteins(x, text) == -1 ? -1 : 0, want == -1 ? 0 : -1);
        CHECK.due("place in " + what, x.place(), want);
    }

    private static void proteinPlaces() {
        String whole = Check.repeated("A", 60);
        proteinPlace("", -1);
        proteinPlace("\n", 0);
        proteinPlace(" ", 0);
        proteinPlace("A", 0);
        proteinPlace(">", 1);
        proteinPlace(">\n", 1);
        proteinPlace("> ", 1);
        proteinPlace(">n", 2);
        proteinPlace(">n ", 2);
        proteinPlace(">n\n", 3);
        proteinPlace(">n\n>", 3);
        proteinPlace(">n\n\n", 3);
        proteinPlace(">n\nA", 4);
        proteinPlace(">n\nA>", 4);
        proteinPlace(">n\nA\n", -1);
        proteinPlace(">n\nA@\n", 4);
        proteinPlace(">n\nA[\n", 4);
        proteinPlace(">n\nZ\n", -1);
        proteinPlace(">n\nA\na", 5);
        proteinPlace(">n\nA\n\n", 5);
        proteinPlace(">n\nA\nB", 6);
        proteinPlace(">n\nA\n>", 6);
        proteinPlace(">!~>\nA\n", -1);
        proteinPlace(">123456789012\nA\n", -1);
        proteinPlace(">1234567890123\nA\n", 13);
        proteinPlace(">n\n" + whole + "\n", -1);
        proteinPlace(">n\n" + whole + "A\n", 63);
        proteinPlace(">n\n" + whole + "\nA\n", 64);
        proteinPlace(">n\n" + whole + "\n>n\nA\n", -1);
        proteinPlace(">n\n" + whole, 63);
        proteinPlace(">n\n" + Check.repeated("A\n", 60), -1);
        proteinPlace(">n\n" + Check.repeated("A\n", 61), 123);
        proteinPlace(">n\n" + Check.repeated("A\n", 58) + "AAA\n", 121);
    }

    private static void manyProteins() {
        String twelve = Check.repeated(">n\nA\n", 12);
        proteinPlace(twelve, -1);
        proteinPlace(twelve + ">n\nA\n", 60);
        proteinPlace(twelve + "A\n", -1);
        proteinPlace(twelve + "A", 61);
        CHECK.due("twelve", Check.proteins(new PeptideSearch(), twelve), 12);
    }

    private static void spectrumPlace(String text, int want) {
        PeptideSearch x = new PeptideSearch();
        String what = "spectra " + text.replace('\n', '/');
        CHECK.due(what, Check.spectra(x, text) == -1 ? -1 : 0, want == -1 ? 0 : -1);
        CHECK.due("place in " + what, x.place(), want);
    }

    private static void spectrumPlaces() {
        spectrumPlace("", -1);
        spectrumPlace(SPECTRUM, -1);
        for (int end = 1; end < SPECTRUM.length(); end++) {
            spectrumPlace(SPECTRUM.substring(0, end), end);
            String wrong = SPECTRUM.substring(0, end) + "~" + SPECTRUM.substring(end + 1);
            spectrumPlace(wrong, end);
        }
        spectrumPlace("begin", 0);
        spectrumPlace(SPECTRUM + "\n", SPECTRUM.length());
        spectrumPlace(SPECTRUM + SPECTRUM, -1);
        spectrumPlace("BEGIN IONS\nPEPMASS=1\nCHARGE=0+\nEND IONS\n", 28);
        spectrumPlace("BEGIN IONS\nPEPMASS=1\nCHARGE=5+\nEND IONS\n", -1);
        spectrumPlace("BEGIN IONS\nPEPMASS=1\nCHARGE=6+\nEND IONS\n", 28);
        spectrumPlace("BEGIN IONS\nPEPMASS=1\nCHARGE=11+\nEND IONS\n", 29);
        spectrumPlace("BEGIN IONS\nPEPMASS=\nCHARGE=1+\nEND IONS\n", 19);
        spectrumPlace("BEGIN IONS\nPEPMASS=.5\nCHARGE=1+\nEND IONS\n", 19);
        spectrumPlace("BEGIN IONS\nPEPMASS=1\nCHARGE=1+\n\nEND IONS\n", 31);
        spectrumPlace("BEGIN IONS\nPEPMASS=1\nCHARGE=1+\n1 2\nEND IONS\n", 32);
        spectrumPlace("BEGIN IONS\nPEPMASS=1\nCHARGE=1+\n1.\nEND IONS\n", 33);
        spectrumPlace("BEGIN IONS\nPEPMASS=1\nCHARGE=1+\n1.2.\nEND IONS\n", 34);
        spectrumPlace("BEGIN IONS\nPEPMASS=1\nCHARGE=1+\n123456\nEND IONS\n", 36);
        spectrumPlace("BEGIN IONS\nPEPMASS=1\nCHARGE=1+\n0.1234567\nEND IONS\n", 39);
        spectrumPlace("BEGIN IONS\nPEPMASS=1\nCHARGE=1+\n99999.999999\nEND IONS\n", -1);
    }

    private static void manySpectra() {
        String twelve = Check.repeated(SPECTRUM, 12);
        spectrumPlace(twelve, -1);
        spectrumPlace(twelve + SPECTRUM, 12 * SPECTRUM.length());
        CHECK.due("twelve", Check.spectra(new PeptideSearch(), twelve), 12);
    }

    private static void manyPeaks() {
        String begin = "BEGIN IONS\nPEPMASS=1\nCHARGE=1+\n";
        spectrumPlace(begin + Check.repeated("7\n", 40) + "END IONS\n", -1);
        spectrumPlace(begin + Check.repeated("7\n", 41) + "END IONS\n", begin.length() + 80);
        spectrumPlace(begin + Check.repeated("7\n", 40), begin.length() + 80);
    }

    private static void decimals() {
        String[] texts = {"0", "00000", "1", "00012", "99999", "1.5", "1.000001", "0.000000", "99999.999999", "7.25"};
        long[] masses = {0, 0, 1000000, 12000000, 99999000000L, 1500000, 1000001, 0, 99999999999L, 7250000};
        PeptideSearch x = new PeptideSearch();
        CHECK.due("a spectrum of decimals", Check.spectra(x, Check.spectrum("3", 1, texts)), 1);
        for (int k = 0; k < texts.length; k++) {
            CHECK.due("decimal " + texts[k], x.peak(0, k), masses[k]);
        }
    }
}
