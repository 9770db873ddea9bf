/** Texts that are typed and read: "Terms" and promises 2 to 4, sentence by sentence, on both sides of each bound. */
public final class TextTest {
    private static final Check CHECK = new Check();
    private static final int PROTEINS = 0;
    private static final int SPECTRA = 1;
    private static final String SIXTY = Check.repeated("ABCDEFGHIJKLMNOPQRSTUVWXYZ", 3).substring(0, 60);
    private static final String HEAD = "BEGIN IONS\nPEPMASS=7\nCHARGE=1+\n";
    private static final String END = "END IONS\n";

    public static void main(String[] args) {
        CHECK.holds("THE TEXT is a row of at most 4,096 characters that is typed", TextTest::mostCharacters);
        CHECK.holds("THE TEXT is a row of at most 4,096 characters that is ... read", TextTest::longestText);
        CHECK.holds("type: IllegalArgumentException; IllegalStateException", TextTest::noRoom);
        CHECK.holds("type: n characters more, the lowest byte of w first", TextTest::bytes);
        CHECK.holds("type: how many there are then", TextTest::typed);
        CHECK.holds("A TEXT OF PROTEINS: for each, at most 12", TextTest::mostProteins);
        CHECK.holds("a line 62", TextTest::beginOfProtein);
        CHECK.holds("and its name (1 to 12 characters", TextTest::nameLengths);
        CHECK.holds("and its name (... characters 33 .. 126)", TextTest::nameCharacters);
        CHECK.holds("then one line or more", TextTest::leastLines);
        CHECK.holds("of 1 to 60 letters", TextTest::lineLengths);
        CHECK.holds("of ... letters A .. Z", TextTest::lineLetters);
        CHECK.holds("60 in all at most", TextTest::lettersInAll);
        CHECK.holds("60 in all at most: of each protein", TextTest::lettersOfEach);
        CHECK.holds("A TEXT OF SPECTRA: for each, at most 12", TextTest::mostSpectra);
        CHECK.holds("lines BEGIN IONS, PEPMASS=, CHARGE=, END IONS", TextTest::spectrumWords);
        CHECK.holds("CHARGE= and a digit 1 .. 5 and +", TextTest::charges);
        CHECK.holds("then 0 to 40 lines with a decimal each", TextTest::mostPeaks);
        CHECK.holds("Each line ends with character 10: of proteins", TextTest::proteinLineEnds);
        CHECK.holds("Each line ends with character 10: of spectra", TextTest::spectrumLineEnds);
        CHECK.holds("A DECIMAL is 1 to 5 digits", TextTest::wholeDigits);
        CHECK.holds("and, if it goes on, a point (46) and 1 to 6 digits", TextTest::partDigits);
        CHECK.holds("the mass is a million times that", TextTest::masses);
        CHECK.holds("An empty text is one of none", TextTest::emptyText);
        CHECK.holds("read: which are those then", TextTest::thoseThen);
        CHECK.holds("read: which are those then: nothing is left of earlier ones", TextTest::nothingLeft);
        CHECK.holds("read: it is empty then", TextTest::emptyThen);
        CHECK.holds("place: the first character that can't be there", TextTest::firstWrong);
        CHECK.holds("place: or how many there were if more must come", TextTest::moreMustCome);
        CHECK.holds("place: If the latest read() answered NONE; NONE otherwise", TextTest::latestRead);
        CHECK.end();
    }

    private static PeptideSearch good(int which, String text, int count) {
        PeptideSearch x = new PeptideSearch();
        Check.typeAll(x, text);
        String what = "read of " + text.replace('\n', '/');
        CHECK.due(what, x.read(which), count);
        CHECK.due("place behind " + what, x.place(), -1);
        CHECK.due("count behind " + what, x.count(which), count);
        return x;
    }

    private static void wrong(int which, String text, int place) {
        PeptideSearch x = new PeptideSearch();
        Check.typeAll(x, text);
        String what = "read of " + text.replace('\n', '/');
        CHECK.due(what, x.read(which), -1);
        CHECK.due("place behind " + what, x.place(), place);
        CHECK.due("count behind " + what, x.count(which), 0);
    }

    /** The last of the 512 calls of an object fills its text to the last character. */
    private static void mostCharacters() {
        PeptideSearch x = new PeptideSearch();
        for (int k = 1; k <= 512; k++) {
            CHECK.due("type " + k, x.type(0x4141414141414141L, 8), 8 * k);
        }
    }

    /** The longest text that 512 calls can type and read: 4,088 characters of eight spectra. */
    private static void longestText() {
        String longPeaks = Check.repeated("99999.999999\n", 40);
        String longSpectrum = "BEGIN IONS\nPEPMASS=99999.999999\nCHARGE=5+\n" + longPeaks + END;
        String lastPeaks = Check.repeated("12345.123456\n", 3) + "12345.54321\n";
        String text = Check.repeated(longSpectrum, 7) + HEAD + lastPeaks + END;
        CHECK.due("characters", text.length(), 511 * 8);
        PeptideSearch x = new PeptideSearch();
        CHECK.due("typed", Check.typeAll(x, text), 511 * 8);
        CHECK.due("read", x.read(SPECTRA), 8);
    }

    /** Only an object that is used beyond its 512 calls can come here: what it does then is free, but told. */
    private static void noRoom() {
        PeptideSearch x = new PeptideSearch();
        for (int k = 1; k < 512; k++) {
            x.type(0x4141414141414141L, 8);
        }
        CHECK.due("one less than there is room for", x.type(0x4141414141414141L, 7), 4095);
        CHECK.throwing("no room for 2", Check.STATE, () -> x.type(0x4141, 2));
        CHECK.throwing("no room for 8", Check.STATE, () -> x.type(0x4141414141414141L, 8));
        CHECK.throwing("n first", Check.ARGUMENT, () -> x.type(0x4141, 9));
        CHECK.throwing("a character first", Check.ARGUMENT, () -> x.type(9, 2));
        CHECK.due("room for 1", x.type(65, 1), 4096);
        CHECK.throwing("no room for 1", Check.STATE, () -> x.type(65, 1));
        CHECK.due("read of the full text", x.read(PROTEINS), -1);
        CHECK.due("place", x.place(), 0);
        CHECK.due("room again", x.type(65, 1), 1);
    }

    private static void bytes() {
        PeptideSearch x = new PeptideSearch();
        x.type(Check.packed(">n\nABCD\n"), 8);
        CHECK.due("read of 8 at once", x.read(PROTEINS), 1);
        for (int i = 0; i < 4; i++) {
            CHECK.due("letter " + i, x.residue(0, false, i), i);
        }
        x.type(Check.packed(">m\nEF\n") | -1L << 48, 6);
        CHECK.due("bytes behind the last do not matter", x.read(PROTEINS), 1);
        CHECK.due("letters", x.size(0, 0), 2);
        CHECK.due("the last", x.residue(0, false, 1), 5);
        CHECK.due("the greatest character, 8 times", x.type(0x7E7E7E7E7E7E7E7EL, 8), 8);
        CHECK.due("bytes of 0 behind the last", x.type(65, 1), 9);
        CHECK.due("bytes of 255 behind the last", x.type(-1L << 8 | 65, 1), 10);
    }

    private static void typed() {
        PeptideSearch x = new PeptideSearch();
        int there = 0;
        for (int n = 1; n <= 8; n++) {
            there += n;
            CHECK.due("type of " + n, x.type(0x2020202020202020L, n), there);
        }
        CHECK.throwing("n of 9", Check.ARGUMENT, () -> x.type(0x2020202020202020L, 9));
        CHECK.throwing("n of 0", Check.ARGUMENT, () -> x.type(0x2020202020202020L, 0));
        CHECK.due("behind what was refused", x.type(32, 1), there + 1);
    }

    private static void mostProteins() {
        String twelve = Check.repeated(">n\nA\n", 11) + ">last-of-them\n" + SIXTY + "\n";
        PeptideSearch x = good(PROTEINS, twelve, 12);
        CHECK.due("letters of the last", x.size(11, 0), 60);
        CHECK.due("its last letter", x.residue(11, false, 59), 59 % 26);
        CHECK.due("its name's last character", x.name(11, 11), 'm');
        CHECK.throwing("there is no thirteenth", Check.INDEX, () -> x.size(12, 0));
        wrong(PROTEINS, twelve + ">", twelve.length());
        wrong(PROTEINS, twelve + ">n\nA\n", twelve.length());
        good(PROTEINS, Check.repeated(">n\nA\n", 11), 11);
        good(PROTEINS, Check.repeated(">n\nA\n", 12) + "B\n", 12);
        good(PROTEINS, ">n\nA\n", 1);
    }

    private static void beginOfProtein() {
        for (String c : new String[] {"=", "?", " ", "\n", "n", "A"}) {
            wrong(PROTEINS, c + "n\nA\n", 0);
        }
        wrong(PROTEINS, ">n\nA\n=n\nA\n", 5);
        wrong(PROTEINS, ">n\nA\n?n\nA\n", 5);
        PeptideSearch x = good(PROTEINS, ">>\nA\n>n\nB\n", 2);
        CHECK.due("it may be in a name", x.name(0, 0), '>');
        CHECK.due("it is not of the name", x.size(0, 1), 1);
    }

    private static void nameLengths() {
        String twelve = "abcdefghijkl";
        wrong(PROTEINS, ">\nA\n", 1);
        CHECK.due("one character", good(PROTEINS, ">a\nA\n", 1).size(0, 1), 1);
        CHECK.due("eleven", good(PROTEINS, ">" + twelve.substring(1) + "\nA\n", 1).size(0, 1), 11);
        PeptideSearch x = good(PROTEINS, ">" + twelve + "\nA\n", 1);
        CHECK.due("twelve", x.size(0, 1), 12);
        for (int i = 0; i < 12; i++) {
            CHECK.due("character " + i, x.name(0, i), 'a' + i);
        }
        CHECK.throwing("character 12", Check.INDEX, () -> x.name(0, 12));
        wrong(PROTEINS, ">" + twelve + "m\nA\n", 13);
        wrong(PROTEINS, ">" + twelve + twelve + "\nA\n", 13);
        wrong(PROTEINS, ">n\nA\n>" + twelve + "m\nA\n", 18);
    }

    private static void nameCharacters() {
        for (char c = 33; c <= 126; c++) {
            CHECK.due("character " + (int) c, good(PROTEINS, ">" + c + "a" + c + "\nA\n", 1).name(0, 2), c);
        }
        wrong(PROTEINS, "> a\nA\n", 1);
        wrong(PROTEINS, ">a a\nA\n", 2);
        wrong(PROTEINS, ">abcdefghijk \nA\n", 12);
        wrong(PROTEINS, ">a \nA\n", 2);
    }

    private static void leastLines() {
        wrong(PROTEINS, ">n\n", 3);
        wrong(PROTEINS, ">n\n>m\nA\n", 3);
        wrong(PROTEINS, ">n\nA\n>m\n", 8);
        wrong(PROTEINS, ">n\nA\n>m\n>o\nA\n", 8);
        CHECK.due("one line", good(PROTEINS, ">n\nAB\n", 1).size(0, 0), 2);
        CHECK.due("two lines", good(PROTEINS, ">n\nAB\nC\n", 1).size(0, 0), 3);
    }

    private static void lineLengths() {
        wrong(PROTEINS, ">n\n\n", 3);
        wrong(PROTEINS, ">n\nA\n\n", 5);
        wrong(PROTEINS, ">n\nA\n\nB\n", 5);
        wrong(PROTEINS, ">n\nA\n\n>m\nB\n", 5);
        CHECK.due("a line of 1", good(PROTEINS, ">n\nA\n", 1).size(0, 0), 1);
        CHECK.due("a line of 59", good(PROTEINS, ">n\n" + SIXTY.substring(1) + "\n", 1).size(0, 0), 59);
        PeptideSearch x = good(PROTEINS, ">n\n" + SIXTY + "\n", 1);
        CHECK.due("a line of 60", x.size(0, 0), 60);
        for (int i = 0; i < 60; i++) {
            CHECK.due("letter " + i, x.residue(0, false, i), i % 26);
            CHECK.due("turned letter " + i, x.residue(0, true, i), (59 - i) % 26);
        }
        CHECK.throwing("letter 60", Check.INDEX, () -> x.residue(0, false, 60));
        wrong(PROTEINS, ">n\n" + SIXTY + "A\n", 63);
    }

    private static void lineLetters() {
        for (char c = 'A'; c <= 'Z'; c++) {
            CHECK.due("letter " + c, good(PROTEINS, ">n\n" + c + "\nB" + c + "\n", 1).residue(0, false, 2), c - 'A');
        }
        for (String c : new String[] {"@", "[", "a", "z", "0", " ", "*", "-"}) {
            wrong(PROTEINS, ">n\n" + c + "\n", 3);
            wrong(PROTEINS, ">n\nA" + c + "\n", 4);
            wrong(PROTEINS, ">n\nA\n" + c + "\n", 5);
        }
    }

    private static void lettersInAll() {
        String thirty = SIXTY.substring(0, 30);
        CHECK.due("30 and 30", good(PROTEINS, ">n\n" + thirty + "\n" + thirty + "\n", 1).size(0, 0), 60);
        wrong(PROTEINS, ">n\n" + thirty + "\n" + thirty + "A\n", 64);
        CHECK.due("59 and 1", good(PROTEINS, ">n\n" + SIXTY.substring(1) + "\nA\n", 1).size(0, 0), 60);
        wrong(PROTEINS, ">n\n" + SIXTY.substring(1) + "\nAA\n", 64);
        wrong(PROTEINS, ">n\n" + SIXTY + "\nA\n", 64);
        wrong(PROTEINS, ">n\n" + SIXTY + "\nA", 64);
        CHECK.due("59 lines of 1", good(PROTEINS, ">n\n" + Check.repeated("A\n", 59), 1).size(0, 0), 59);
        CHECK.due("60 lines of 1", good(PROTEINS, ">n\n" + Check.repeated("A\n", 60), 1).size(0, 0), 60);
        wrong(PROTEINS, ">n\n" + Check.repeated("A\n", 61), 123);
    }

    private static void lettersOfEach() {
        String one = ">n\n" + SIXTY + "\n";
        PeptideSearch x = good(PROTEINS, Check.repeated(one, 12), 12);
        CHECK.due("letters of the last", x.size(11, 0), 60);
        wrong(PROTEINS, Check.repeated(one, 11) + ">n\n" + SIXTY + "A\n", 11 * one.length() + 63);
        wrong(PROTEINS, Check.repeated(one, 12) + "A\n", 12 * one.length());
    }

    private static void mostSpectra() {
        String one = HEAD + END;
        String twelve = Check.repeated(one, 11) + HEAD + "3\n4\n" + END;
        PeptideSearch x = good(SPECTRA, twelve, 12);
        CHECK.due("the last one's mass", x.peak(11, -1), 6000000);
        CHECK.due("the last one's last peak", x.peak(11, 1), 4000000);
        CHECK.throwing("there is no thirteenth", Check.INDEX, () -> x.peak(12, -1));
        wrong(SPECTRA, twelve + "B", twelve.length());
        wrong(SPECTRA, twelve + one, twelve.length());
        good(SPECTRA, Check.repeated(one, 11), 11);
        good(SPECTRA, one, 1);
    }

    /** Each character of them, another one in its place, none in its place. */
    private static void spectrumWords() {
        String text = HEAD + "8\n" + END;
        good(SPECTRA, text, 1);
        String words = "BEGIN IONS\nPEPMASS=_\nCHARGE=_+\n_\nEND IONS\n";
        for (int at = 0; at < text.length(); at++) {
            if (words.charAt(at) != '_') {
                wrong(SPECTRA, text.substring(0, at) + "~" + text.substring(at + 1), at);
                wrong(SPECTRA, text.substring(0, at) + " " + text.substring(at), text.charAt(at) == ' ' ? at + 1 : at);
            }
        }
        wrong(SPECTRA, "BEGINIONS\n", 5);
        wrong(SPECTRA, "begin ions\n", 0);
        wrong(SPECTRA, "BEGIN IONS\nCHARGE=1+\nPEPMASS=7\n" + END, 11);
        wrong(SPECTRA, HEAD + "CHARGE=1+\n" + END, HEAD.length());
        wrong(SPECTRA, HEAD + END + "8\n", HEAD.length() + END.length());
        wrong(SPECTRA, HEAD + END + END, HEAD.length() + END.length());
        wrong(SPECTRA, HEAD + HEAD, HEAD.length());
        wrong(SPECTRA, "1+\n" + END, 0);
        wrong(SPECTRA, END, 0);
        wrong(SPECTRA, "BEGIN IONS\n1+\n" + END, 11);
        wrong(SPECTRA, "BEGIN IONS\nPEPMASS=1+\n" + END, 20);
        wrong(SPECTRA, "BEGIN IONS\nPEPMASS=7\n1+\n" + END, 21);
        wrong(SPECTRA, "BEGIN IONS\nPEPMASS=7\n8\n" + END, 21);
    }

    private static void charges() {
        String before = "BEGIN IONS\nPEPMASS=7\nCHARGE=";
        for (int charge = 1; charge <= 5; charge++) {
            PeptideSearch x = good(SPECTRA, before + charge + "+\n" + END, 1);
            CHECK.due("charge " + charge, x.peak(0, -1), 6000000L * charge);
        }
        for (String c : new String[] {"0", "6", "9", "/", "+", "-1", "\n", ""}) {
            wrong(SPECTRA, before + c + "+\n" + END, before.length());
        }
        wrong(SPECTRA, before + "11+\n" + END, before.length() + 1);
        wrong(SPECTRA, before + "1\n" + END, before.length() + 1);
        wrong(SPECTRA, before + "1-\n" + END, before.length() + 1);
        wrong(SPECTRA, before + "1++\n" + END, before.length() + 2);
    }

    private static void mostPeaks() {
        PeptideSearch none = good(SPECTRA, HEAD + END, 1);
        CHECK.throwing("peak 0 of none", Check.INDEX, () -> none.peak(0, 0));
        PeptideSearch one = good(SPECTRA, HEAD + "9\n" + END, 1);
        CHECK.due("peak 0 of one", one.peak(0, 0), 9000000);
        CHECK.throwing("peak 1 of one", Check.INDEX, () -> one.peak(0, 1));
        StringBuilder lines = new StringBuilder();
        for (int k = 0; k < 40; k++) {
            lines.append(100 - k).append('\n');
        }
        PeptideSearch x = good(SPECTRA, HEAD + lines + END, 1);
        for (int k = 0; k < 40; k++) {
            CHECK.due("peak " + k, x.peak(0, k), 1000000L * (100 - k));
        }
        CHECK.throwing("peak 40", Check.INDEX, () -> x.peak(0, 40));
        wrong(SPECTRA, HEAD + lines + "9\n" + END, HEAD.length() + lines.length());
        wrong(SPECTRA, HEAD + lines + "9", HEAD.length() + lines.length());
        good(SPECTRA, HEAD + Check.repeated("8\n", 40) + END + HEAD + Check.repeated("8\n", 40) + END, 2);
        wrong(SPECTRA, HEAD + "\n" + END, HEAD.length());
        wrong(SPECTRA, HEAD + "8 9\n" + END, HEAD.length() + 1);
        wrong(SPECTRA, HEAD + "8" + END, HEAD.length() + 1);
        wrong(SPECTRA, HEAD + "8." + END, HEAD.length() + 2);
        wrong(SPECTRA, HEAD + "8.5" + END, HEAD.length() + 3);
    }

    /** Every end of a line left out, or a space in its place, or two of them; and none behind the last line. */
    private static void lineEnds(int which, String text, int count) {
        for (int at = text.indexOf('\n'); at >= 0; at = text.indexOf('\n', at + 1)) {
            wrong(which, text.substring(0, at), at);
            wrong(which, text.substring(0, at) + " " + text.substring(at + 1), at);
            wrong(which, text.substring(0, at + 1) + "\n" + text.substring(at + 1), at + 1);
        }
        good(which, text, count);
    }

    private static void proteinLineEnds() {
        lineEnds(PROTEINS, ">n\nA\nBC\n>m\nD\n", 2);
        lineEnds(PROTEINS, ">abcdefghijkl\n" + SIXTY + "\n", 1);
    }

    private static void spectrumLineEnds() {
        lineEnds(SPECTRA, HEAD + "1\n2.5\n12345\n1.123456\n" + END + HEAD + END, 2);
        lineEnds(SPECTRA, "BEGIN IONS\nPEPMASS=12345.123456\nCHARGE=5+\n" + END, 1);
    }

    private static void decimal(String text, long mass) {
        CHECK.due("peak of " + text, good(SPECTRA, HEAD + text + "\n" + END, 1).peak(0, 0), mass);
        PeptideSearch x = good(SPECTRA, "BEGIN IONS\nPEPMASS=" + text + "\nCHARGE=1+\n" + END, 1);
        CHECK.due("mass of " + text, x.peak(0, -1), mass - 1000000);
    }

    private static void wrongDecimal(String text, int at) {
        wrong(SPECTRA, HEAD + text + "\n" + END, HEAD.length() + at);
        wrong(SPECTRA, "BEGIN IONS\nPEPMASS=" + text + "\nCHARGE=1+\n" + END, 19 + at);
    }

    private static void wholeDigits() {
        wrongDecimal("", 0);
        wrongDecimal(".5", 0);
        wrongDecimal("-1", 0);
        wrongDecimal("+1", 0);
        wrongDecimal("/", 0);
        wrongDecimal(":", 0);
        decimal("0", 0);
        decimal("9", 9000000);
        decimal("1234", 1234000000);
        decimal("12345", 12345000000L);
        decimal("00001", 1000000);
        wrongDecimal("123456", 5);
        wrongDecimal("000001", 5);
        wrongDecimal("123456.5", 5);
        wrongDecimal("1/", 1);
        wrongDecimal("1:", 1);
        wrongDecimal("1e5", 1);
    }

    private static void partDigits() {
        wrongDecimal("1.", 2);
        wrongDecimal("12345.", 6);
        decimal("1.0", 1000000);
        decimal("1.5", 1500000);
        decimal("1.12345", 1123450);
        decimal("1.123456", 1123456);
        decimal("12345.1", 12345100000L);
        wrongDecimal("1.1234567", 8);
        wrongDecimal("1.0000000", 8);
        wrongDecimal("12345.1234567", 12);
        wrongDecimal("1..5", 2);
        wrongDecimal("1.5.", 3);
        wrongDecimal("1,5", 1);
        wrongDecimal("1-5", 1);
        wrongDecimal("1./", 2);
        wrongDecimal("1.:", 2);
        wrongDecimal("1.5/", 3);
        wrongDecimal("1.5:", 3);
    }

    private static void masses() {
        decimal("0.000000", 0);
        decimal("0.000001", 1);
        decimal("0.00001", 10);
        decimal("0.0001", 100);
        decimal("0.001", 1000);
        decimal("0.01", 10000);
        decimal("0.1", 100000);
        decimal("1.000000", 1000000);
        decimal("2147.483647", Integer.MAX_VALUE);
        decimal("2147.483648", 1L + Integer.MAX_VALUE);
        decimal("4294.967296", 1L << 32);
        decimal("99999", 99999000000L);
        decimal("99999.999999", 99999999999L);
    }

    private static void emptyText() {
        for (int which : new int[] {PROTEINS, SPECTRA}) {
            PeptideSearch x = new PeptideSearch();
            CHECK.due("read of nothing", x.read(which), 0);
            CHECK.due("place", x.place(), -1);
            CHECK.due("count", x.count(which), 0);
            PeptideSearch y = State.searched();
            y.read(SPECTRA);
            CHECK.due("read of nothing where there was something", y.read(which), 0);
            CHECK.due("place then", y.place(), -1);
            CHECK.due("count then", y.count(which), 0);
            CHECK.due("the others stay", y.count(1 - which), which == PROTEINS ? State.SPECTRA : State.PROTEINS);
            wrong(which, "\n", 0);
        }
    }

    private static void thoseThen() {
        PeptideSearch x = good(PROTEINS, ">abc\nABCD\n>d\nE\n", 2);
        CHECK.due("proteins again", Check.proteins(x, ">e\nFG\n"), 1);
        CHECK.due("count", x.count(0), 1);
        CHECK.due("letters", x.size(0, 0), 2);
        CHECK.due("a letter", x.residue(0, false, 0), 5);
        CHECK.due("a name", x.size(0, 1), 1);
        CHECK.throwing("no second one", Check.INDEX, () -> x.size(1, 0));
        CHECK.due("spectra", Check.spectra(x, Check.spectrum("7", 2, "1", "2") + Check.spectrum("9", 1)), 2);
        CHECK.due("spectra again", Check.spectra(x, Check.spectrum("8", 1, "3")), 1);
        CHECK.due("count of spectra", x.count(1), 1);
        CHECK.due("mass", x.peak(0, -1), 7000000);
        CHECK.due("peak", x.peak(0, 0), 3000000);
        CHECK.throwing("no second peak", Check.INDEX, () -> x.peak(0, 1));
        CHECK.throwing("no second spectrum", Check.INDEX, () -> x.peak(1, -1));
        CHECK.due("the proteins stay", x.count(0), 1);
    }

    private static void nothingLeft() {
        PeptideSearch x = new PeptideSearch();
        String[] peaks = new String[40];
        java.util.Arrays.fill(peaks, "9");
        for (int k = 0; k < 4; k++) {
            Check.proteins(x, k % 2 == 0 ? ">abcdefghijkl\n" + SIXTY + "\n>b\nB\n" : ">a\nB\n");
            Check.spectra(x, k % 2 == 0 ? Check.spectrum("3", 5, peaks) : Check.spectrum("2", 1, "8"));
        }
        CHECK.due("proteins", x.count(0), 1);
        CHECK.due("letters", x.size(0, 0), 1);
        CHECK.due("a letter", x.residue(0, false, 0), 1);
        CHECK.due("a name", x.size(0, 1), 1);
        CHECK.due("mass", x.peak(0, -1), 1000000);
        CHECK.due("peak", x.peak(0, 0), 8000000);
        CHECK.throwing("one peak", Check.INDEX, () -> x.peak(0, 1));
        Check.proteins(x, ">bc\nCC\n");
        Check.spectra(x, Check.spectrum("4", 2, "6", "5"));
        CHECK.due("letters then", x.size(0, 0), 2);
        CHECK.due("a name then", x.size(0, 1), 2);
        CHECK.due("its second character", x.name(0, 1), 'c');
        CHECK.due("mass then", x.peak(0, -1), 6000000);
        CHECK.due("peak then", x.peak(0, 1), 5000000);
        CHECK.throwing("two peaks", Check.INDEX, () -> x.peak(0, 2));
        String spectrum = HEAD + END;
        for (int end = 1; end < spectrum.length(); end++) {
            Check.spectra(x, spectrum);
            CHECK.due("part of what was read", Check.spectra(x, spectrum.substring(0, end)), -1);
            CHECK.due("place in part of it", x.place(), end);
        }
    }

    private static void emptyThen() {
        PeptideSearch x = good(PROTEINS, ">a\nA\n", 1);
        CHECK.due("typed behind a good read", x.type(65, 1), 1);
        CHECK.due("wrong", x.read(PROTEINS), -1);
        CHECK.due("typed behind a wrong read", x.type(66, 1), 1);
        CHECK.throwing("refused", Check.ARGUMENT, () -> x.read(2));
        CHECK.due("typed behind a refused read", x.type(67, 1), 2);
        CHECK.due("wrong again", x.read(SPECTRA), -1);
        CHECK.due("nothing", x.read(SPECTRA), 0);
        CHECK.due("typed behind a read of nothing", x.type(67, 1), 1);
    }

    private static void firstWrong() {
        wrong(PROTEINS, "a>n\nA\n", 0);
        wrong(PROTEINS, ">n\nAa\n", 4);
        wrong(PROTEINS, ">n\nAaa a\n>", 4);
        wrong(PROTEINS, ">n\nA\n>m\nA\n~", 10);
        wrong(SPECTRA, "~", 0);
        wrong(SPECTRA, HEAD + "1\n2\n3x\n" + END, HEAD.length() + 5);
        wrong(SPECTRA, HEAD + END + "~", HEAD.length() + END.length());
    }

    /** Every beginning of a good text that is no good text itself. */
    private static void moreMustCome() {
        String proteins = ">name\nAB\nC\n";
        for (int end = 1; end < proteins.length(); end++) {
            if (end == 9) {
                good(PROTEINS, proteins.substring(0, end), 1);
            } else {
                wrong(PROTEINS, proteins.substring(0, end), end);
            }
        }
        String spectra = "BEGIN IONS\nPEPMASS=12.5\nCHARGE=3+\n1.25\n3\n" + END;
        for (int end = 1; end < spectra.length(); end++) {
            wrong(SPECTRA, spectra.substring(0, end), end);
            wrong(SPECTRA, spectra + spectra.substring(0, end), spectra.length() + end);
        }
        good(SPECTRA, spectra + spectra, 2);
    }

    private static void latestRead() {
        PeptideSearch x = new PeptideSearch();
        CHECK.due("no read at all", x.place(), -1);
        Check.typeAll(x, ">n\n-");
        CHECK.due("typed alone", x.place(), -1);
        x.read(PROTEINS);
        CHECK.due("NONE", x.place(), 3);
        CHECK.due("asked again", x.place(), 3);
        x.limits(1, 1);
        x.search();
        CHECK.due("other calls", x.place(), 3);
        CHECK.throwing("read(2)", Check.ARGUMENT, () -> x.read(2));
        CHECK.due("a read that throws", x.place(), 3);
        Check.typeAll(x, "BEGIN ");
        CHECK.due("typed again", x.place(), 3);
        x.read(SPECTRA);
        CHECK.due("a later NONE", x.place(), 6);
        x.read(SPECTRA);
        CHECK.due("a good read of spectra", x.place(), -1);
        Check.proteins(x, "-");
        CHECK.due("NONE again", x.place(), 0);
        Check.proteins(x, ">n\nA\n");
        CHECK.due("a good read of proteins", x.place(), -1);
    }
}
