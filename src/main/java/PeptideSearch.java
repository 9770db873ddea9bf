import java.util.NoSuchElementException;

/** Finds the peptides that spectra come from, and the fewest proteins that explain them. */
public final class PeptideSearch {
    public static final int NONE = -1;

    private static final int TEXT_ROOM = 4096;
    private static final int TYPED_AT_ONCE = 8;
    private static final int LINE_END = 10;
    private static final int FIRST_TYPED = 32;
    private static final int FIRST_NAMED = 33;
    private static final int LAST_TYPED = 126;
    private static final int DECIMAL_WHOLE = 5;
    private static final int DECIMAL_PARTS = 6;

    private static final int PROTEINS_MOST = 12;
    private static final int PROTEIN_LETTERS = 60;
    private static final int NAME_MOST = 12;
    private static final int SPECTRA_MOST = 12;
    private static final int PEAKS_MOST = 40;
    private static final int CHARGE_MOST = 5;

    private static final int ALPHABET = 26;
    private static final int CHANGES = 4;
    private static final int KINDS = 1 + CHANGES + CHANGES * CHANGES;
    private static final int MISSED_MOST = 3;
    private static final int CHANGED_MOST = 2;
    private static final int PEPTIDE_LETTERS = 30;
    private static final int PEPTIDES_MOST = PROTEIN_LETTERS * (MISSED_MOST + 1);

    private static final int MILLION = 1000000;
    private static final int MASS_MOST = 1000000000;
    private static final long WEIGHT_MOST = 1000000000000L;
    private static final int FRACTION_MOST = 1000;

    private static final String SPECTRUM_BEGIN = "BEGIN IONS\nPEPMASS=";
    private static final String SPECTRUM_CHARGE = "\nCHARGE=";
    private static final String SPECTRUM_PEAKS = "+\n";
    private static final String SPECTRUM_END = "END IONS\n";

    private final Text text = new Text();
    private final Rules rules = new Rules();
    private final Cutter cutter = new Cutter();
    private final Seeker seeker = new Seeker(rules);
    private final Rate matchRate = new Rate();
    private final boolean[] accepted = new boolean[SPECTRA_MOST];
    private final int[] holders = new int[SPECTRA_MOST];
    private Protein[] proteins = new Protein[PROTEINS_MOST];
    private Protein[] spareProteins = new Protein[PROTEINS_MOST];
    private Spectrum[] spectra = new Spectrum[SPECTRA_MOST];
    private Spectrum[] spareSpectra = new Spectrum[SPECTRA_MOST];
    private int proteinCount = 0;
    private int spectrumCount = 0;
    private int wrongPlace = NONE;
    private boolean searched = false;

    public PeptideSearch() {
        for (int k = 0; k < PROTEINS_MOST; k++) {
            proteins[k] = new Protein();
            spareProteins[k] = new Protein();
        }
        for (int k = 0; k < SPECTRA_MOST; k++) {
            spectra[k] = new Spectrum();
            spareSpectra[k] = new Spectrum();
        }
    }

    public int type(long w, int n) throws IllegalArgumentException, IllegalStateException {
        if (n < 1 || n > TYPED_AT_ONCE || !allTyped(w, n)) {
            throw new IllegalArgumentException();
        }
        if (n > TEXT_ROOM - text.length) {
            throw new IllegalStateException();
        }
        text.append(w, n);
        return text.length;
    }

    public int read(int which) throws IllegalArgumentException {
        if (which != 0 && which != 1) {
            throw new IllegalArgumentException();
        }
        text.at = 0;
        int found = which == 0 ? takeProteins() : takeSpectra();
        wrongPlace = found == NONE ? text.at : NONE;
        text.length = 0;
        if (found != NONE) {
            searched = false;
        }
        return found;
    }

    public int place() {
        return wrongPlace;
    }

    public void letter(int letter, int mass, boolean cuts, boolean stops)
            throws IndexOutOfBoundsException, IllegalArgumentException {
        if (!isBelow(letter, ALPHABET)) {
            throw new IndexOutOfBoundsException();
        }
        if (!isWithin(mass, 0, MASS_MOST)) {
            throw new IllegalArgumentException();
        }
        rules.masses[letter] = mass;
        rules.cuts[letter] = cuts;
        rules.stops[letter] = stops;
        searched = false;
    }

    public void change(int change, int letter, int more)
            throws IndexOutOfBoundsException, IllegalArgumentException {
        if (!isBelow(change, CHANGES)) {
            throw new IndexOutOfBoundsException();
        }
        if (!isWithin(letter, NONE, ALPHABET - 1) || !isWithin(more, -MASS_MOST, MASS_MOST)) {
            throw new IllegalArgumentException();
        }
        rules.setChange(change, letter, more);
        searched = false;
    }

    public void limits(int missed, int most) throws IllegalArgumentException {
        if (!isWithin(missed, 0, MISSED_MOST) || !isWithin(most, 0, CHANGED_MOST)) {
            throw new IllegalArgumentException();
        }
        rules.missed = missed;
        rules.most = most;
        searched = false;
    }

    public void windows(int parts, int near) throws IllegalArgumentException {
        if (!isWithin(parts, 0, MILLION) || !isWithin(near, 0, MASS_MOST)) {
            throw new IllegalArgumentException();
        }
        rules.parts = parts;
        rules.near = near;
        searched = false;
    }

    public void extras(int water, int proton) throws IllegalArgumentException {
        if (!isWithin(water, 0, MASS_MOST) || !isWithin(proton, 0, MASS_MOST)) {
            throw new IllegalArgumentException();
        }
        rules.water = water;
        rules.proton = proton;
        searched = false;
    }

    public int count(int which) throws IllegalArgumentException {
        if (which != 0 && which != 1) {
            throw new IllegalArgumentException();
        }
        return which == 0 ? proteinCount : spectrumCount;
    }

    public int residue(int protein, boolean turned, int i) throws IndexOutOfBoundsException {
        if (!isBelow(protein, proteinCount) || !isBelow(i, proteins[protein].length)) {
            throw new IndexOutOfBoundsException();
        }
        return proteins[protein].letterAt(i, turned);
    }

    public int size(int protein, int what) throws IndexOutOfBoundsException, IllegalArgumentException {
        if (!isBelow(protein, proteinCount)) {
            throw new IndexOutOfBoundsException();
        }
        if (!isWithin(what, 0, 3)) {
            throw new IllegalArgumentException();
        }
        if (what == 0) {
            return proteins[protein].length;
        }
        if (what == 1) {
            return proteins[protein].nameLength;
        }
        cutter.cut(proteins[protein], what == 3, rules);
        return cutter.pieces;
    }

    public int name(int protein, int i) throws IndexOutOfBoundsException {
        if (!isBelow(protein, proteinCount) || !isBelow(i, proteins[protein].nameLength)) {
            throw new IndexOutOfBoundsException();
        }
        return proteins[protein].nameCharacters[i];
    }

    public int peptide(int protein, boolean turned, int i, int what)
            throws IndexOutOfBoundsException, IllegalArgumentException {
        if (!hasPiece(protein, turned, i)) {
            throw new IndexOutOfBoundsException();
        }
        if (!isWithin(what, 0, 2)) {
            throw new IllegalArgumentException();
        }
        if (what == 0) {
            return cutter.begins[i];
        }
        if (what == 1) {
            return cutter.lengths[i];
        }
        seeker.forms.weigh(cutter, i, rules);
        return seeker.forms.weighing(1, WEIGHT_MOST);
    }

    public long weight(int protein, boolean turned, int i) throws IndexOutOfBoundsException {
        if (!hasPiece(protein, turned, i)) {
            throw new IndexOutOfBoundsException();
        }
        seeker.forms.weigh(cutter, i, rules);
        return seeker.forms.plain;
    }

    public long peak(int spectrum, int i) throws IndexOutOfBoundsException {
        if (!isBelow(spectrum, spectrumCount)) {
            throw new IndexOutOfBoundsException();
        }
        if (i == NONE) {
            return spectra[spectrum].massWith(rules.proton);
        }
        if (!isBelow(i, spectra[spectrum].peakCount)) {
            throw new IndexOutOfBoundsException();
        }
        return spectra[spectrum].peaks[i];
    }

    public int search() {
        for (int k = 0; k < spectrumCount; k++) {
            spectra[k].open(rules);
        }
        for (int k = 0; k < proteinCount; k++) {
            seekIn(k, false);
        }
        for (int k = 0; k < proteinCount; k++) {
            seekIn(k, true);
        }
        searched = true;
        int matched = 0;
        for (int k = 0; k < spectrumCount; k++) {
            if (spectra[k].best.score > 0) {
                matched++;
            }
        }
        return matched;
    }

    public int candidates(int spectrum) throws IllegalStateException, IndexOutOfBoundsException {
        needSearched(spectrum);
        return spectra[spectrum].candidateCount;
    }

    public int match(int spectrum, int what)
            throws IllegalStateException, IndexOutOfBoundsException, IllegalArgumentException, NoSuchElementException {
        needSearched(spectrum);
        if (!isWithin(what, 0, 4)) {
            throw new IllegalArgumentException();
        }
        Match best = needMatch(spectrum);
        switch (what) {
            case 0:
                return best.score;
            case 1:
                return best.protein;
            case 2:
                return best.turned ? 1 : 0;
            case 3:
                return best.begin;
            default:
                return best.length;
        }
    }

    public int changed(int spectrum, int i)
            throws IllegalStateException, IndexOutOfBoundsException, NoSuchElementException {
        needSearched(spectrum);
        Match best = needMatch(spectrum);
        if (!isBelow(i, best.length)) {
            throw new IndexOutOfBoundsException();
        }
        return best.changeAt(i);
    }

    public int rate(int spectrum, int which)
            throws IllegalStateException, IndexOutOfBoundsException, IllegalArgumentException, NoSuchElementException {
        needSearched(spectrum);
        if (which != 0 && which != 1) {
            throw new IllegalArgumentException();
        }
        findRate(needMatch(spectrum).score);
        matchRate.shorten();
        return which == 0 ? matchRate.part : matchRate.whole;
    }

    public int explain(int p, int q) throws IllegalArgumentException, IllegalStateException {
        if (!isWithin(p, 0, FRACTION_MOST) || !isWithin(q, 1, FRACTION_MOST)) {
            throw new IllegalArgumentException();
        }
        if (!searched) {
            throw new IllegalStateException();
        }
        findAccepted(p, q);
        findHolders();
        return fewestHolders();
    }

    private static boolean isBelow(int i, int end) {
        return i >= 0 && i < end;
    }

    private static boolean isWithin(int number, int least, int most) {
        return number >= least && number <= most;
    }

    private static boolean allTyped(long w, int n) {
        for (int k = 0; k < n; k++) {
            int c = byteOf(w, k);
            if (c != LINE_END && !isWithin(c, FIRST_TYPED, LAST_TYPED)) {
                return false;
            }
        }
        return true;
    }

    private static int byteOf(long w, int k) {
        return (int) (w >>> (8 * k)) & 255;
    }

    /** They go into spare rows, so that those that are there stay if the text is wrong. */
    private int takeProteins() {
        int found = 0;
        for (; found < PROTEINS_MOST && !text.isAtEnd(); found++) {
            if (!spareProteins[found].takeFrom(text)) {
                return NONE;
            }
        }
        if (!text.isAtEnd()) {
            return NONE;
        }
        Protein[] former = proteins;
        proteins = spareProteins;
        spareProteins = former;
        proteinCount = found;
        return found;
    }

    private int takeSpectra() {
        int found = 0;
        for (; found < SPECTRA_MOST && !text.isAtEnd(); found++) {
            if (!spareSpectra[found].takeFrom(text)) {
                return NONE;
            }
        }
        if (!text.isAtEnd()) {
            return NONE;
        }
        Spectrum[] former = spectra;
        spectra = spareSpectra;
        spareSpectra = former;
        spectrumCount = found;
        return found;
    }

    /** Leaves the protein cut up if it is there. */
    private boolean hasPiece(int protein, boolean turned, int i) {
        if (!isBelow(protein, proteinCount)) {
            return false;
        }
        cutter.cut(proteins[protein], turned, rules);
        return isBelow(i, cutter.pieces);
    }

    /** Peptides are looked at in the order that decides between equal scores: only a greater one replaces a match. */
    private void seekIn(int protein, boolean turned) {
        cutter.cut(proteins[protein], turned, rules);
        for (int piece = 0; piece < cutter.pieces; piece++) {
            seeker.prepare(cutter, piece);
            for (int s = 0; s < spectrumCount; s++) {
                if (seeker.improves(spectra[s])) {
                    spectra[s].best.stand(protein, turned, cutter.begins[piece], cutter.lengths[piece]);
                }
            }
        }
    }

    private void needSearched(int spectrum) {
        if (!searched) {
            throw new IllegalStateException();
        }
        if (!isBelow(spectrum, spectrumCount)) {
            throw new IndexOutOfBoundsException();
        }
    }

    private Match needMatch(int spectrum) {
        Match best = spectra[spectrum].best;
        if (best.score == 0) {
            throw new NoSuchElementException();
        }
        return best;
    }

    private int scoring(int least, boolean turned) {
        int found = 0;
        for (int s = 0; s < spectrumCount; s++) {
            if (spectra[s].best.score >= least && spectra[s].best.turned == turned) {
                found++;
            }
        }
        return found;
    }

    private void findRate(int score) {
        matchRate.reset();
        for (int t = 1; t <= score; t++) {
            matchRate.lower(scoring(t, true), scoring(t, false));
        }
    }

    private void findAccepted(int p, int q) {
        for (int s = 0; s < spectrumCount; s++) {
            Match best = spectra[s].best;
            findRate(best.score);
            accepted[s] = best.score > 0 && !best.turned && matchRate.isAtMost(p, q);
        }
    }

    private void findHolders() {
        for (int s = 0; s < spectrumCount; s++) {
            holders[s] = 0;
        }
        for (int k = 0; k < proteinCount; k++) {
            cutter.cut(proteins[k], false, rules);
            for (int s = 0; s < spectrumCount; s++) {
                Match best = spectra[s].best;
                if (accepted[s] && cutter.hasLetters(proteins[best.protein], best.begin, best.length)) {
                    holders[s] |= 1 << k;
                }
            }
        }
    }

    private int fewestHolders() {
        int all = (1 << proteinCount) - 1;
        int fewest = all;
        for (int set = 0; set < all; set++) {
            if (isBefore(set, fewest) && explainsAll(set)) {
                fewest = set;
            }
        }
        return fewest;
    }

    private static boolean isBefore(int set, int other) {
        int fewer = Integer.bitCount(other) - Integer.bitCount(set);
        int apart = set ^ other;
        return fewer > 0 || fewer == 0 && (apart & -apart & set) != 0;
    }

    private boolean explainsAll(int set) {
        for (int s = 0; s < spectrumCount; s++) {
            if (accepted[s] && (holders[s] & set) == 0) {
                return false;
            }
        }
        return true;
    }

    /** The characters that were typed; when they are read, at stops at the first one that can't be there. */
    private static final class Text {
        private final char[] characters = new char[TEXT_ROOM];
        private int length = 0;
        private int at = 0;
        private long decimal = 0;

        private void append(long w, int n) {
            for (int k = 0; k < n && length < TEXT_ROOM; k++) {
                characters[length] = (char) byteOf(w, k);
                length++;
            }
        }

        private boolean isAtEnd() {
            return at >= length;
        }

        private int next() {
            return at < length ? characters[at] : NONE;
        }

        private boolean isNextWithin(int least, int most) {
            return at < length && characters[at] >= least && characters[at] <= most;
        }

        private boolean take(int c) {
            if (next() != c) {
                return false;
            }
            at++;
            return true;
        }

        private boolean takeAll(String word) {
            for (int k = 0; k < word.length(); k++) {
                if (!take(word.charAt(k))) {
                    return false;
                }
            }
            return true;
        }

        private boolean takeDecimal() {
            decimal = 0;
            if (takeDigits(DECIMAL_WHOLE) == 0) {
                return false;
            }
            int parts = 0;
            if (take('.')) {
                parts = takeDigits(DECIMAL_PARTS);
                if (parts == 0) {
                    return false;
                }
            }
            for (int k = parts; k < DECIMAL_PARTS; k++) {
                decimal *= 10;
            }
            return true;
        }

        private int takeDigits(int most) {
            int taken = 0;
            for (; taken < most && isNextWithin('0', '9'); taken++) {
                decimal = decimal * 10 + (next() - '0');
                at++;
            }
            return taken;
        }
    }

    private static final class Protein {
        private final int[] letters = new int[PROTEIN_LETTERS];
        private final int[] nameCharacters = new int[NAME_MOST];
        private int length = 0;
        private int nameLength = 0;

        private int letterAt(int i, boolean turned) {
            return letters[turned ? length - 1 - i : i];
        }

        private boolean takeFrom(Text text) {
            return text.take('>') && takeName(text) && takeLines(text);
        }

        private boolean takeName(Text text) {
            nameLength = 0;
            for (; nameLength < NAME_MOST && text.isNextWithin(FIRST_NAMED, LAST_TYPED); nameLength++) {
                nameCharacters[nameLength] = text.next();
                text.at++;
            }
            return nameLength > 0 && text.take(LINE_END);
        }

        private boolean takeLines(Text text) {
            length = 0;
            boolean good = takeLine(text);
            for (int line = 1; good && line < PROTEIN_LETTERS && isLetterNext(text); line++) {
                good = takeLine(text);
            }
            return good;
        }

        private boolean takeLine(Text text) {
            int before = length;
            for (; length < PROTEIN_LETTERS && isLetterNext(text); length++) {
                letters[length] = text.next() - 'A';
                text.at++;
            }
            return length > before && text.take(LINE_END);
        }

        private boolean isLetterNext(Text text) {
            return length < PROTEIN_LETTERS && text.isNextWithin('A', 'Z');
        }
    }

    private static final class Spectrum {
        private final long[] peaks = new long[PEAKS_MOST];
        private final long[] sortedPeaks = new long[PEAKS_MOST];
        private final Match best = new Match();
        private int peakCount = 0;
        private long pepmass = 0;
        private int charge = 1;
        private int candidateCount = 0;
        private long leastWeight = 1;
        private long mostWeight = 0;

        private long massWith(int proton) {
            return charge * (pepmass - proton);
        }

        private boolean takeFrom(Text text) {
            return takePepmass(text) && takeCharge(text) && takePeaks(text) && text.takeAll(SPECTRUM_END);
        }

        private boolean takePepmass(Text text) {
            if (!text.takeAll(SPECTRUM_BEGIN) || !text.takeDecimal()) {
                return false;
            }
            pepmass = text.decimal;
            return text.takeAll(SPECTRUM_CHARGE);
        }

        private boolean takeCharge(Text text) {
            if (!text.isNextWithin('1', '0' + CHARGE_MOST)) {
                return false;
            }
            charge = text.next() - '0';
            text.at++;
            return text.takeAll(SPECTRUM_PEAKS);
        }

        private boolean takePeaks(Text text) {
            peakCount = 0;
            for (int k = 0; k < PEAKS_MOST && text.isNextWithin('0', '9'); k++) {
                if (!text.takeDecimal() || !text.take(LINE_END)) {
                    return false;
                }
                addPeak(text.decimal);
            }
            return true;
        }

        private void addPeak(long mass) {
            if (peakCount >= PEAKS_MOST) {
                return;
            }
            peaks[peakCount] = mass;
            int to = peakCount;
            for (; to > 0 && sortedPeaks[to - 1] > mass; to--) {
                sortedPeaks[to] = sortedPeaks[to - 1];
            }
            sortedPeaks[to] = mass;
            peakCount++;
        }

        /** Forms that weigh 0 or less are none, so the least weight is 1 even where PARTS would allow less. */
        private void open(Rules rules) {
            candidateCount = 0;
            best.score = 0;
            long mass = massWith(rules.proton);
            long apart = mass > 0 ? rules.parts * mass / MILLION : 0;
            leastWeight = Math.max(1, mass - apart);
            mostWeight = mass + apart;
        }
    }

    /** A spectrum's best candidate so far; score 0: it has none. */
    private static final class Match {
        private int score = 0;
        private int protein = 0;
        private boolean turned = false;
        private int begin = 0;
        private int length = 0;
        private int firstAt = 0;
        private int firstChange = NONE;
        private int secondAt = 0;
        private int secondChange = NONE;

        private void stand(int itsProtein, boolean isTurned, int itsBegin, int itsLength) {
            protein = itsProtein;
            turned = isTurned;
            begin = itsBegin;
            length = itsLength;
        }

        private void setChanges(int first, int c, int second, int d) {
            firstAt = first;
            firstChange = c;
            secondAt = second;
            secondChange = d;
        }

        private int changeAt(int i) {
            if (secondChange != NONE && i == secondAt) {
                return secondChange;
            }
            return i == firstAt ? firstChange : NONE;
        }
    }

    /** What can be set, but for proteins and spectra. */
    private static final class Rules {
        private final int[] masses = new int[ALPHABET];
        private final boolean[] cuts = new boolean[ALPHABET];
        private final boolean[] stops = new boolean[ALPHABET];
        private final int[] changeLetters = new int[] {NONE, NONE, NONE, NONE};
        private final int[] changeMores = new int[CHANGES];
        private final long[] kindMores = new long[KINDS];
        private int missed = 0;
        private int most = 0;
        private int parts = 0;
        private int near = 0;
        private int water = 18000000;
        private int proton = 1000000;

        private void setChange(int change, int letter, int more) {
            changeLetters[change] = letter;
            changeMores[change] = more;
            for (int c = 0; c < CHANGES; c++) {
                kindMores[kindOf(c, NONE)] = changeMores[c];
                for (int d = 0; d < CHANGES; d++) {
                    kindMores[kindOf(c, d)] = (long) changeMores[c] + changeMores[d];
                }
            }
        }

        private boolean canChange(int letter, int change) {
            return changeLetters[change] == letter;
        }

        /** A form's kind is which changes it has, from the left to the right: forms of a kind weigh the same. */
        private static int kindOf(int first, int second) {
            if (first == NONE) {
                return 0;
            }
            return second == NONE ? 1 + first : 1 + CHANGES + CHANGES * first + second;
        }

        /** How many kinds there are with at most MOST changes: those with fewer have the lower numbers. */
        private int kindsAllowed() {
            if (most == 0) {
                return 1;
            }
            return most == 1 ? 1 + CHANGES : KINDS;
        }
    }

    /** A protein, or a turned one, cut up: its peptides by where they begin, then by how many letters they have. */
    private static final class Cutter {
        private final int[] letters = new int[PROTEIN_LETTERS];
        private final int[] places = new int[PROTEIN_LETTERS + 1];
        private final int[] begins = new int[PEPTIDES_MOST];
        private final int[] lengths = new int[PEPTIDES_MOST];
        private int length = 0;
        private int lastPlace = 0;
        private int pieces = 0;

        private void cut(Protein protein, boolean turned, Rules rules) {
            length = protein.length;
            for (int i = 0; i < length; i++) {
                letters[i] = protein.letterAt(i, turned);
            }
            findPlaces(rules);
            findPieces(rules.missed);
        }

        private void findPlaces(Rules rules) {
            places[0] = 0;
            lastPlace = 0;
            for (int i = 1; i <= length; i++) {
                if (i == length || rules.cuts[letters[i - 1]] && !rules.stops[letters[i]]) {
                    lastPlace++;
                    places[lastPlace] = i;
                }
            }
        }

        private void findPieces(int missed) {
            pieces = 0;
            for (int from = 0; from < lastPlace; from++) {
                int farthest = Math.min(lastPlace, from + 1 + missed);
                for (int to = from + 1; to <= farthest; to++) {
                    addPiece(places[from], places[to] - places[from]);
                }
            }
        }

        private void addPiece(int begin, int pieceLength) {
            if (pieceLength > PEPTIDE_LETTERS || pieces >= PEPTIDES_MOST) {
                return;
            }
            begins[pieces] = begin;
            lengths[pieces] = pieceLength;
            pieces++;
        }

        /** Whether some letters of a protein are the letters of a peptide here. */
        private boolean hasLetters(Protein protein, int begin, int pieceLength) {
            for (int piece = 0; piece < pieces; piece++) {
                if (lengths[piece] == pieceLength && isSame(begins[piece], protein, begin, pieceLength)) {
                    return true;
                }
            }
            return false;
        }

        private boolean isSame(int here, Protein protein, int there, int pieceLength) {
            for (int i = 0; i < pieceLength; i++) {
                if (letters[here + i] != protein.letters[there + i]) {
                    return false;
                }
            }
            return true;
        }
    }

    /** The forms of one peptide, counted by their kinds. */
    private static final class Forms {
        private final int[] letters = new int[PEPTIDE_LETTERS];
        private final int[] ways = new int[KINDS];
        private final long[] weights = new long[KINDS];
        private int kinds = 1;
        private int length = 0;
        private long plain = 0;

        private void weigh(Cutter cutter, int piece, Rules rules) {
            length = cutter.lengths[piece];
            for (int i = 0; i < length; i++) {
                letters[i] = cutter.letters[cutter.begins[piece] + i];
            }
            kinds = rules.kindsAllowed();
            plain = plainWeight(rules);
            for (int kind = 0; kind < kinds; kind++) {
                ways[kind] = 0;
                weights[kind] = plain + rules.kindMores[kind];
            }
            if (plain > 0) {
                countWays(rules);
            }
        }

        private long plainWeight(Rules rules) {
            long sum = rules.water;
            for (int i = 0; i < length; i++) {
                if (rules.masses[letters[i]] == 0) {
                    return 0;
                }
                sum += rules.masses[letters[i]];
            }
            return sum;
        }

        private void countWays(Rules rules) {
            ways[0] = 1;
            for (int i = 0; i < length && rules.most > 0; i++) {
                countPairs(i, rules);
                for (int c = 0; c < CHANGES; c++) {
                    if (rules.canChange(letters[i], c)) {
                        ways[Rules.kindOf(c, NONE)]++;
                    }
                }
            }
        }

        /** Letter i is the second one that is changed: the ways of one change are those of the letters before it. */
        private void countPairs(int i, Rules rules) {
            for (int d = 0; d < CHANGES && rules.most > 1; d++) {
                if (rules.canChange(letters[i], d)) {
                    for (int c = 0; c < CHANGES; c++) {
                        ways[Rules.kindOf(c, d)] += ways[Rules.kindOf(c, NONE)];
                    }
                }
            }
        }

        private int weighing(long least, long most) {
            int found = 0;
            for (int kind = 0; kind < kinds; kind++) {
                if (weights[kind] >= least && weights[kind] <= most) {
                    found += ways[kind];
                }
            }
            return found;
        }
    }

    /** The ions from one end of a peptide, and how many of the first ones, all changed alike, a spectrum has. */
    private static final class Ladder {
        private final long[] ions = new long[PEPTIDE_LETTERS];
        private final int[][] hits = new int[KINDS][PEPTIDE_LETTERS];
        private int last = 0;

        private void climb(Forms forms, boolean fromEnd, long extra, Rules rules) {
            last = forms.length - 1;
            ions[0] = extra;
            for (int i = 1; i <= last; i++) {
                int letter = forms.letters[fromEnd ? last + 1 - i : i - 1];
                ions[i] = ions[i - 1] + rules.masses[letter];
            }
        }

        /** Both the ions and the peaks ascend, so one walk along the peaks serves all ions. */
        private void compare(int kind, long more, Spectrum spectrum, int near) {
            int[] row = hits[kind];
            row[0] = 0;
            int at = 0;
            for (int i = 1; i <= last; i++) {
                long ion = ions[i] + more;
                while (at < spectrum.peakCount && spectrum.sortedPeaks[at] < ion - near) {
                    at++;
                }
                boolean hit = at < spectrum.peakCount && spectrum.sortedPeaks[at] <= ion + near;
                row[i] = hit ? row[i - 1] + 1 : row[i - 1];
            }
        }

        /** Seen from its end: ions up to first have no change, those up to second have one, the rest have both. */
        private int hitsOf(int firstKind, int first, int bothKind, int second) {
            return hits[0][first]
                + hits[firstKind][second] - hits[firstKind][first]
                + hits[bothKind][last] - hits[bothKind][second];
        }
    }

    /** Looks whether a form of a peptide is a better match of a spectrum than the one that it has. */
    private static final class Seeker {
        private final Forms forms = new Forms();
        private final Ladder front = new Ladder();
        private final Ladder back = new Ladder();
        private final boolean[] fits = new boolean[KINDS];
        private final Rules rules;

        private Seeker(Rules rules) {
            this.rules = rules;
        }

        private void prepare(Cutter cutter, int piece) {
            forms.weigh(cutter, piece, rules);
            front.climb(forms, false, rules.proton, rules);
            back.climb(forms, true, (long) rules.water + rules.proton, rules);
        }

        private boolean improves(Spectrum spectrum) {
            int found = forms.weighing(spectrum.leastWeight, spectrum.mostWeight);
            spectrum.candidateCount += found;
            int before = spectrum.best.score;
            if (found > 0 && front.last + back.last > before) {
                compareAll(spectrum);
                tryAll(spectrum.best);
            }
            return spectrum.best.score > before;
        }

        private void compareAll(Spectrum spectrum) {
            for (int kind = 0; kind < forms.kinds; kind++) {
                long weighs = forms.weights[kind];
                fits[kind] = weighs >= spectrum.leastWeight && weighs <= spectrum.mostWeight;
                if (forms.ways[kind] > 0) {
                    front.compare(kind, rules.kindMores[kind], spectrum, rules.near);
                    back.compare(kind, rules.kindMores[kind], spectrum, rules.near);
                }
            }
        }

        /** Goes by the letters from the left, what is not changed first: so the first change goes from the right. */
        private void tryAll(Match best) {
            tryForm(best, 0, NONE, 0, NONE);
            for (int at = forms.length - 1; at >= 0 && rules.most > 0; at--) {
                for (int c = 0; c < CHANGES; c++) {
                    if (rules.canChange(forms.letters[at], c)) {
                        tryForm(best, at, c, at, NONE);
                        trySeconds(best, at, c);
                    }
                }
            }
        }

        private void trySeconds(Match best, int first, int c) {
            for (int at = forms.length - 1; at > first && rules.most > 1; at--) {
                for (int d = 0; d < CHANGES; d++) {
                    if (rules.canChange(forms.letters[at], d)) {
                        tryForm(best, first, c, at, d);
                    }
                }
            }
        }

        private void tryForm(Match best, int first, int c, int second, int d) {
            int kind = Rules.kindOf(c, d);
            if (!fits[kind]) {
                return;
            }
            int score = front.hitsOf(Rules.kindOf(c, NONE), first, kind, second)
                + back.hitsOf(Rules.kindOf(d, NONE), back.last - second, kind, back.last - first);
            if (score > best.score) {
                best.score = score;
                best.setChanges(first, c, second, d);
            }
        }
    }

    /** The least of some fractions that are at most 1. */
    private static final class Rate {
        private int part = 1;
        private int whole = 1;

        private void reset() {
            part = 1;
            whole = 1;
        }

        private void lower(int p, int q) {
            if (q > 0 && p * whole < part * q) {
                part = p;
                whole = q;
            }
        }

        private boolean isAtMost(int p, int q) {
            return part * q <= p * whole;
        }

        private void shorten() {
            for (int d = whole; d > 1; d--) {
                if (part % d == 0 && whole % d == 0) {
                    part /= d;
                    whole /= d;
                }
            }
        }
    }
}
