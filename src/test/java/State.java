/**
 * An object with something of everything, and all that it can be asked, to tell whether a call changed something.
 * It can be asked for all three times, with what else a test calls, before its 512 calls are over.
 */
final class State {
    static final int PROTEINS = 2;
    static final int SPECTRA = 3;
    /** A letter that is seen to weigh, to cut and to stop, and a change that the first match has. */
    static final int LETTER = 2;
    static final int CHANGE = 3;
    static final int MORE = 5000000;
    static final int PLACE = 3;
    static final String PROTEIN_TEXT = ">one\nABKPCKDE\n>two!\nCBA\n";
    private static final String[] PEAKS = {"32.4", "52.4", "37.4", "57.4"};

    /** Every number that can be set is another one than at first. */
    static PeptideSearch made() {
        PeptideSearch x = Check.withLetters();
        x.limits(1, 1);
        x.windows(10000, 500000);
        x.extras(20000000, 2000000);
        x.change(CHANGE, 0, MORE);
        Check.proteins(x, PROTEIN_TEXT);
        Check.spectra(x, spectra());
        return x;
    }

    /** The first one's match is changed, the second one's is turned, the third one has none; the text is half typed. */
    static PeptideSearch searched() {
        PeptideSearch x = made();
        Check.proteins(x, ">n\n-");
        x.search();
        Check.typeAll(x, ">n\nA");
        return x;
    }

    static String spectra() {
        return Check.spectrum("87.5", 1, PEAKS) + Check.spectrum("42.1", 2, "12.4", "72.4") + Check.spectrum("82", 1);
    }

    /** The text can't be asked for: it is told by what becomes of it. */
    static String textOf(PeptideSearch x) {
        StringBuilder text = new StringBuilder();
        add(text, "typed", () -> x.type(Check.packed("B\n"), 2));
        add(text, "read", () -> x.read(0));
        addProtein(text, x, 0);
        return text.toString();
    }

    static String of(PeptideSearch x) {
        StringBuilder text = new StringBuilder();
        add(text, "place", () -> x.place());
        add(text, "proteins", () -> x.count(0));
        add(text, "spectra", () -> x.count(1));
        int proteins = x.count(0);
        for (int k = 0; k < proteins; k++) {
            addProtein(text, x, k);
            addPeptides(text, x, k, false);
            addPeptides(text, x, k, true);
        }
        int spectra = x.count(1);
        for (int k = 0; k < spectra; k++) {
            addSpectrum(text, x, k);
            addMatch(text, x, k);
        }
        add(text, "at 0", () -> x.explain(0, 1));
        add(text, "at 1", () -> x.explain(1, 1));
        return text.toString();
    }

    static String withPlace(String state, int place) {
        return state.replace("place " + PLACE + ";", "place " + place + ";");
    }

    private static boolean add(StringBuilder text, String what, Check.Call call) {
        long[] answer = new long[1];
        String thrown = Check.thrownBy(() -> answer[0] = call.answer());
        boolean answered = thrown.equals("nothing");
        text.append(what).append(' ').append(answered ? String.valueOf(answer[0]) : thrown).append("; ");
        return answered;
    }

    private static void addProtein(StringBuilder text, PeptideSearch x, int protein) {
        text.append("protein ");
        int characters = x.size(protein, 1);
        for (int i = 0; i < characters; i++) {
            text.append((char) x.name(protein, i));
        }
        text.append(' ');
        int letters = x.size(protein, 0);
        for (int i = 0; i < letters; i++) {
            text.append((char) ('A' + x.residue(protein, false, i)));
        }
        text.append("; ");
    }

    private static void addPeptides(StringBuilder text, PeptideSearch x, int protein, boolean turned) {
        int peptides = x.size(protein, turned ? 3 : 2);
        for (int i = 0; i < peptides; i++) {
            text.append(turned ? "turned " : "peptide ").append(x.peptide(protein, turned, i, 0)).append('+')
                .append(x.peptide(protein, turned, i, 1)).append(" forms ").append(x.peptide(protein, turned, i, 2))
                .append(" weight ").append(x.weight(protein, turned, i)).append("; ");
        }
    }

    private static void addSpectrum(StringBuilder text, PeptideSearch x, int spectrum) {
        add(text, "spectrum", () -> x.peak(spectrum, -1));
        boolean more = true;
        for (int i = 0; more; i++) {
            int peak = i;
            more = add(text, "peak", () -> x.peak(spectrum, peak));
        }
    }

    private static void addMatch(StringBuilder text, PeptideSearch x, int spectrum) {
        add(text, "candidates", () -> x.candidates(spectrum));
        for (int what = 0; what < 5; what++) {
            int k = what;
            add(text, "match", () -> x.match(spectrum, k));
        }
        for (int i = 0; i < 4; i++) {
            int k = i;
            add(text, "changed", () -> x.changed(spectrum, k));
        }
        add(text, "p", () -> x.rate(spectrum, 0));
        add(text, "q", () -> x.rate(spectrum, 1));
    }
}
