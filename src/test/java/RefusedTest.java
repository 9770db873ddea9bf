/**
 * Every number of every call on both sides of its bounds. What is refused is called on an object with something of
 * everything: all that it can be asked, what it finds when it searches again and its text are as they were.
 */
public final class RefusedTest {
    private static final Check CHECK = new Check();
    private static final int TEXT_LETTERS = 4;

    private interface Numbered {
        void call(PeptideSearch x, int number);
    }

    public static void main(String[] args) {
        CHECK.holds("what the tests of refused calls look at is there", RefusedTest::somethingOfAll);
        CHECK.holds("type: n is not 1 .. 8", RefusedTest::typedAtOnce);
        CHECK.holds("type: or one is neither 10 nor 32 .. 126", RefusedTest::typedCharacters);
        CHECK.holds("read: another which", RefusedTest::readWhich);
        CHECK.holds("letter: A letter (0 .. 25)", RefusedTest::letterNumbers);
        CHECK.holds("letter: mass is not 0 .. 1000000000", RefusedTest::letterMasses);
        CHECK.holds("CHANGES 0 .. 3", RefusedTest::changeNumbers);
        CHECK.holds("change: letter is not NONE or 0 .. 25", RefusedTest::changeLetters);
        CHECK.holds("change: or more not -1000000000 .. 1000000000", RefusedTest::changeMores);
        CHECK.holds("limits: MISSED 0 .. 3", RefusedTest::missedNumbers);
        CHECK.holds("limits: and MOST 0 .. 2", RefusedTest::mostNumbers);
        CHECK.holds("windows: PARTS 0 .. 1000000", RefusedTest::partsNumbers);
        CHECK.holds("windows: and NEAR 0 .. 1000000000", RefusedTest::nearNumbers);
        CHECK.holds("extras: WATER and PROTON, 0 .. 1000000000", RefusedTest::extrasNumbers);
        CHECK.holds("count: How many proteins (which = 0), spectra (1) there are", RefusedTest::countWhich);
        CHECK.holds("residue: there is no such protein, letter", RefusedTest::residueNumbers);
        CHECK.holds("size: there is no such protein; another what", RefusedTest::sizeNumbers);
        CHECK.holds("name: there is no such protein, character", RefusedTest::nameNumbers);
        CHECK.holds("peptide: there is no such protein, peptide; another what", RefusedTest::peptideNumbers);
        CHECK.holds("weight: there is no such protein, peptide", RefusedTest::weightNumbers);
        CHECK.holds("peak: there is no such spectrum, peak", RefusedTest::peakNumbers);
        CHECK.holds("candidates: there is no such spectrum", RefusedTest::candidatesNumbers);
        CHECK.holds("match: there is no such spectrum; another what", RefusedTest::matchNumbers);
        CHECK.holds("changed: there is no such spectrum, letter", RefusedTest::changedNumbers);
        CHECK.holds("rate: there is no such spectrum; another which", RefusedTest::rateNumbers);
        CHECK.holds("explain: p is not 0 .. 1000, or q not 1 .. 1000", RefusedTest::explainNumbers);
        CHECK.holds("NoSuchElementException: the spectrum has no match", RefusedTest::noMatch);
        CHECK.holds("IllegalStateException: nothing was searched since", RefusedTest::notSearched);
        CHECK.holds("of several exceptions the one named first is thrown (settings)", RefusedTest::firstOfSettings);
        CHECK.holds("of several exceptions the one named first is thrown (proteins)", RefusedTest::firstOfProteins);
        CHECK.holds("of several exceptions the one named first is thrown (state)", RefusedTest::firstIsState);
        CHECK.holds("of several exceptions the one named first is thrown (spectra)", RefusedTest::firstOfSpectra);
        CHECK.holds("changed: IndexOutOfBoundsException (for the letter behind NoSuchElementException)",
            RefusedTest::letterBehindNoMatch);
        CHECK.holds("explain: IllegalArgumentException; IllegalStateException", RefusedTest::firstOfExplain);
        CHECK.end();
    }

    private static void refused(String what, String exception, PeptideSearch x, Check.Act act) {
        String before = State.of(x);
        CHECK.throwing(what, exception, act);
        CHECK.same("all behind " + what, State.of(x), before);
    }

    private static void refused(String what, String exception, Numbered call, int number) {
        PeptideSearch x = State.searched();
        String before = State.of(x);
        CHECK.throwing(what, exception, () -> call.call(x, number));
        CHECK.same("all behind " + what, State.of(x), before);
        x.search();
        CHECK.same("all searched again behind " + what, State.of(x), before);
        CHECK.same("the text behind " + what, State.textOf(x), "typed 6; read 1; protein n AB; ");
    }

    private static void bounds(String what, int least, int most, String exception, Numbered call) {
        for (int number : new int[] {Integer.MIN_VALUE, least - 1, most + 1, Integer.MAX_VALUE}) {
            refused(what + " " + number, exception, call, number);
        }
        for (int number : new int[] {least, most}) {
            PeptideSearch x = State.searched();
            CHECK.throwing(what + " " + number, "nothing", () -> call.call(x, number));
        }
    }

    /** If these were not so, calls that change them could pass unseen. */
    private static void somethingOfAll() {
        PeptideSearch x = State.searched();
        CHECK.due("place", x.place(), State.PLACE);
        CHECK.due("a match of a protein", x.match(0, 2), 0);
        CHECK.due("that is changed", x.changed(0, 2), State.CHANGE);
        CHECK.due("its score", x.match(0, 0), 4);
        CHECK.due("a match of a turned one", x.match(1, 2), 1);
        CHECK.due("candidates without a match", x.candidates(2), 2);
        CHECK.throwing("no match", Check.ELEMENT, () -> x.match(2, 0));
        CHECK.due("what explains", x.explain(1, 1), 2);
        CHECK.same("text", State.textOf(x), "typed 6; read 1; protein n AB; ");
    }

    private static void typedAtOnce() {
        bounds("type of n", 1, 8, Check.ARGUMENT, (x, n) -> x.type(0x4141414141414141L, n));
    }

    private static void typedCharacters() {
        for (int c : new int[] {0, 9, 11, 31, 127, 128, 138, 160, 255}) {
            refused("type character " + c, Check.ARGUMENT, (x, k) -> x.type(k, 1), c);
        }
        for (int at = 0; at < 8; at++) {
            int shift = 8 * at;
            for (int c : new int[] {9, 11, 31, 127, 255}) {
                long w = 0x4141414141414141L & ~(255L << shift) | (long) c << shift;
                refused("character " + c + " at " + at, Check.ARGUMENT, (x, n) -> x.type(w, n), 8);
            }
            for (int c : new int[] {10, 32, 126}) {
                long w = 0x4141414141414141L & ~(255L << shift) | (long) c << shift;
                CHECK.due("character " + c + " at " + at, State.searched().type(w, 8), TEXT_LETTERS + 8);
            }
        }
    }

    private static void readWhich() {
        bounds("read", 0, 1, Check.ARGUMENT, (x, which) -> x.read(which));
    }

    private static void letterNumbers() {
        bounds("letter", 0, 25, Check.INDEX, (x, letter) -> x.letter(letter, 1, true, true));
    }

    private static void letterMasses() {
        bounds("mass", 0, 1000000000, Check.ARGUMENT, (x, mass) -> x.letter(State.LETTER, mass, true, true));
    }

    private static void changeNumbers() {
        bounds("change", 0, 3, Check.INDEX, (x, change) -> x.change(change, 1, 1));
    }

    private static void changeLetters() {
        bounds("the letter of a change", -1, 25, Check.ARGUMENT, (x, letter) -> x.change(State.CHANGE, letter, 1));
    }

    private static void changeMores() {
        bounds("more", -1000000000, 1000000000, Check.ARGUMENT, (x, more) -> x.change(State.CHANGE, 1, more));
        bounds("more of no letter", -1000000000, 1000000000, Check.ARGUMENT,
            (x, more) -> x.change(State.CHANGE, -1, more));
    }

    private static void missedNumbers() {
        bounds("MISSED", 0, 3, Check.ARGUMENT, (x, missed) -> x.limits(missed, 2));
    }

    private static void mostNumbers() {
        bounds("MOST", 0, 2, Check.ARGUMENT, (x, most) -> x.limits(3, most));
    }

    private static void partsNumbers() {
        bounds("PARTS", 0, 1000000, Check.ARGUMENT, (x, parts) -> x.windows(parts, 0));
    }

    private static void nearNumbers() {
        bounds("NEAR", 0, 1000000000, Check.ARGUMENT, (x, near) -> x.windows(0, near));
    }

    private static void extrasNumbers() {
        bounds("WATER", 0, 1000000000, Check.ARGUMENT, (x, water) -> x.extras(water, 3));
        bounds("PROTON", 0, 1000000000, Check.ARGUMENT, (x, proton) -> x.extras(3, proton));
    }

    private static void countWhich() {
        bounds("count", 0, 1, Check.ARGUMENT, (x, which) -> x.count(which));
    }

    private static void residueNumbers() {
        bounds("residue of protein", 0, State.PROTEINS - 1, Check.INDEX, (x, k) -> x.residue(k, false, 0));
        bounds("residue of turned", 0, State.PROTEINS - 1, Check.INDEX, (x, k) -> x.residue(k, true, 0));
        bounds("residue", 0, 7, Check.INDEX, (x, i) -> x.residue(0, false, i));
        bounds("turned residue", 0, 2, Check.INDEX, (x, i) -> x.residue(1, true, i));
    }

    private static void sizeNumbers() {
        bounds("size of protein", 0, State.PROTEINS - 1, Check.INDEX, (x, k) -> x.size(k, 0));
        bounds("size", 0, 3, Check.ARGUMENT, (x, what) -> x.size(1, what));
    }

    private static void nameNumbers() {
        bounds("name of protein", 0, State.PROTEINS - 1, Check.INDEX, (x, k) -> x.name(k, 0));
        bounds("name", 0, 2, Check.INDEX, (x, i) -> x.name(0, i));
        bounds("another name", 0, 3, Check.INDEX, (x, i) -> x.name(1, i));
    }

    private static void peptideNumbers() {
        bounds("peptide of protein", 0, State.PROTEINS - 1, Check.INDEX, (x, k) -> x.peptide(k, false, 0, 0));
        bounds("peptide", 0, 2, Check.INDEX, (x, i) -> x.peptide(0, false, i, 1));
        bounds("turned peptide", 0, 4, Check.INDEX, (x, i) -> x.peptide(0, true, i, 2));
        bounds("peptide's what", 0, 2, Check.ARGUMENT, (x, what) -> x.peptide(0, false, 0, what));
    }

    private static void weightNumbers() {
        bounds("weight of protein", 0, State.PROTEINS - 1, Check.INDEX, (x, k) -> x.weight(k, false, 0));
        bounds("weight of peptide", 0, 2, Check.INDEX, (x, i) -> x.weight(0, false, i));
        bounds("weight of turned peptide", 0, 4, Check.INDEX, (x, i) -> x.weight(0, true, i));
    }

    private static void peakNumbers() {
        bounds("mass of spectrum", 0, State.SPECTRA - 1, Check.INDEX, (x, k) -> x.peak(k, -1));
        bounds("peak", -1, 3, Check.INDEX, (x, i) -> x.peak(0, i));
        bounds("peak of none", -1, -1, Check.INDEX, (x, i) -> x.peak(2, i));
    }

    private static void candidatesNumbers() {
        bounds("candidates of spectrum", 0, State.SPECTRA - 1, Check.INDEX, (x, k) -> x.candidates(k));
    }

    private static void matchNumbers() {
        bounds("match's what", 0, 4, Check.ARGUMENT, (x, what) -> x.match(0, what));
        spectrumNumbers("match of spectrum", (x, k) -> x.match(k, 0));
    }

    private static void changedNumbers() {
        bounds("changed letter", 0, 2, Check.INDEX, (x, i) -> x.changed(0, i));
        spectrumNumbers("changed of spectrum", (x, k) -> x.changed(k, 0));
    }

    private static void rateNumbers() {
        bounds("rate's which", 0, 1, Check.ARGUMENT, (x, which) -> x.rate(0, which));
        spectrumNumbers("rate of spectrum", (x, k) -> x.rate(k, 0));
    }

    /** The last spectrum is there, but has no match. */
    private static void spectrumNumbers(String what, Numbered call) {
        for (int k : new int[] {Integer.MIN_VALUE, -1, State.SPECTRA, Integer.MAX_VALUE}) {
            refused(what + " " + k, Check.INDEX, call, k);
        }
        CHECK.throwing(what + " 0", "nothing", () -> call.call(State.searched(), 0));
        refused(what + " without a match", Check.ELEMENT, call, State.SPECTRA - 1);
    }

    private static void explainNumbers() {
        bounds("p", 0, 1000, Check.ARGUMENT, (x, p) -> x.explain(p, 1));
        bounds("q", 1, 1000, Check.ARGUMENT, (x, q) -> x.explain(1, q));
    }

    /** The third spectrum has candidates, but no peaks; a fourth one has peaks, but no candidates. */
    private static void noMatch() {
        PeptideSearch x = State.made();
        Check.spectra(x, State.spectra() + Check.spectrum("1", 1, "32"));
        CHECK.due("two of four have a match", x.search(), 2);
        for (int k = 2; k < 4; k++) {
            int spectrum = k;
            for (int what = 0; what < 5; what++) {
                int number = what;
                CHECK.throwing("match " + what, Check.ELEMENT, () -> x.match(spectrum, number));
            }
            CHECK.throwing("changed", Check.ELEMENT, () -> x.changed(spectrum, 0));
            CHECK.throwing("p", Check.ELEMENT, () -> x.rate(spectrum, 0));
            CHECK.throwing("q", Check.ELEMENT, () -> x.rate(spectrum, 1));
            CHECK.due("candidates", x.candidates(spectrum), k == 2 ? 2 : 0);
        }
        CHECK.throwing("the last one with a match", "nothing", () -> x.match(1, 0));
    }

    private static void notSearched() {
        PeptideSearch x = State.made();
        refused("candidates", Check.STATE, x, () -> x.candidates(0));
        PeptideSearch y = State.made();
        refused("match", Check.STATE, y, () -> y.match(0, 0));
        PeptideSearch z = State.made();
        refused("changed", Check.STATE, z, () -> z.changed(0, 0));
        PeptideSearch v = State.made();
        refused("rate", Check.STATE, v, () -> v.rate(0, 0));
        PeptideSearch w = State.made();
        refused("explain", Check.STATE, w, () -> w.explain(1, 1));
    }

    private static void firstOfSettings() {
        refused("letter and mass", Check.INDEX, (x, k) -> x.letter(k, -1, false, false), 26);
        refused("letter and mass", Check.INDEX, (x, k) -> x.letter(k, 1000000001, false, false), -1);
        refused("change and letter", Check.INDEX, (x, k) -> x.change(k, 26, 0), 4);
        refused("change and more", Check.INDEX, (x, k) -> x.change(k, 0, 1000000001), -1);
        refused("change, letter and more", Check.INDEX, (x, k) -> x.change(k, -2, -1000000001), 4);
    }

    private static void firstOfProteins() {
        refused("size: protein and what", Check.INDEX, (x, k) -> x.size(k, 4), 2);
        refused("size: protein and what", Check.INDEX, (x, k) -> x.size(k, -1), -1);
        refused("peptide: protein and what", Check.INDEX, (x, k) -> x.peptide(k, false, 0, 3), 2);
        refused("peptide: peptide and what", Check.INDEX, (x, i) -> x.peptide(0, false, i, 3), 3);
        refused("peptide: turned one and what", Check.INDEX, (x, i) -> x.peptide(0, true, i, -1), 5);
        refused("peptide: a negative one and what", Check.INDEX, (x, i) -> x.peptide(0, true, i, 3), -1);
    }

    private static void firstIsState() {
        PeptideSearch x = State.made();
        String before = State.of(x);
        for (int k : new int[] {-1, State.SPECTRA}) {
            CHECK.throwing("candidates: state and spectrum", Check.STATE, () -> x.candidates(k));
            CHECK.throwing("match: state and spectrum", Check.STATE, () -> x.match(k, 0));
            CHECK.throwing("match: state, spectrum and what", Check.STATE, () -> x.match(k, 5));
            CHECK.throwing("changed: state and spectrum", Check.STATE, () -> x.changed(k, 0));
            CHECK.throwing("rate: state and spectrum", Check.STATE, () -> x.rate(k, 0));
            CHECK.throwing("rate: state, spectrum and which", Check.STATE, () -> x.rate(k, 2));
        }
        CHECK.throwing("match: state and what", Check.STATE, () -> x.match(0, 5));
        CHECK.throwing("changed: state and letter", Check.STATE, () -> x.changed(0, -1));
        CHECK.throwing("rate: state and which", Check.STATE, () -> x.rate(0, -1));
        CHECK.throwing("match: state of one without a match", Check.STATE, () -> x.match(2, 0));
        CHECK.throwing("changed: state of one without a match", Check.STATE, () -> x.changed(2, 0));
        CHECK.throwing("rate: state of one without a match", Check.STATE, () -> x.rate(2, 0));
        CHECK.same("all behind them", State.of(x), before);
    }

    private static void firstOfSpectra() {
        refused("match: spectrum and what", Check.INDEX, (x, k) -> x.match(k, 5), State.SPECTRA);
        refused("match: spectrum and what", Check.INDEX, (x, k) -> x.match(k, -1), -1);
        refused("match: what and no match", Check.ARGUMENT, (x, what) -> x.match(2, what), 5);
        refused("match: what and no match", Check.ARGUMENT, (x, what) -> x.match(2, what), -1);
        refused("rate: spectrum and which", Check.INDEX, (x, k) -> x.rate(k, 2), State.SPECTRA);
        refused("rate: spectrum and which", Check.INDEX, (x, k) -> x.rate(k, -1), -1);
        refused("rate: which and no match", Check.ARGUMENT, (x, which) -> x.rate(2, which), 2);
        refused("rate: which and no match", Check.ARGUMENT, (x, which) -> x.rate(2, which), -1);
    }

    private static void letterBehindNoMatch() {
        refused("no match and a letter", Check.ELEMENT, (x, i) -> x.changed(2, i), -1);
        refused("no match and a letter", Check.ELEMENT, (x, i) -> x.changed(2, i), 99);
        refused("spectrum and a letter", Check.INDEX, (x, i) -> x.changed(State.SPECTRA, i), 99);
        refused("a match and a letter", Check.INDEX, (x, i) -> x.changed(0, i), 3);
    }

    private static void firstOfExplain() {
        PeptideSearch x = State.made();
        String before = State.of(x);
        CHECK.throwing("p and state", Check.ARGUMENT, () -> x.explain(-1, 1));
        CHECK.throwing("p and state", Check.ARGUMENT, () -> x.explain(1001, 1));
        CHECK.throwing("q and state", Check.ARGUMENT, () -> x.explain(0, 0));
        CHECK.throwing("q and state", Check.ARGUMENT, () -> x.explain(0, 1001));
        CHECK.throwing("state alone", Check.STATE, () -> x.explain(1000, 1000));
        CHECK.same("all behind them", State.of(x), before);
    }
}
