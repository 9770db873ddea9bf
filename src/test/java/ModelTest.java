import java.util.ArrayList;
import java.util.List;
import java.util.regex.Matcher;
import java.util.regex.Pattern;

/**
 * Many small runs against a plain model of the document: every form is made letter by letter, every ion is compared
 * with every peak, every set of proteins is tried. Masses are small, so that equal scores are frequent.
 */
public final class ModelTest {
    private static final Check CHECK = new Check();
    private static final String LETTERS = "ABCK";

    private static long seed = 20261115;

    private static int upTo(int end) {
        seed = seed * 6364136223846793005L + 1442695040888963407L;
        return (int) ((seed >>> 33) % end);
    }

    private record Form(int protein, boolean turned, int begin, int[] letters, int[] changes, long weight) {
    }

    private static final class Model {
        final List<String> proteins = new ArrayList<>();
        final List<long[]> spectra = new ArrayList<>();
        final int[] mass = new int[26];
        final boolean[] cuts = new boolean[26];
        final boolean[] stops = new boolean[26];
        final int[] changeLetter = {-1, -1, -1, -1};
        final int[] changeMore = new int[4];
        int missed;
        int most;
        long parts;
        long near;
        long water = 18000000;
        long proton = 1000000;
        List<Form> forms;
        final List<Form> best = new ArrayList<>();
        final List<Integer> scores = new ArrayList<>();

        String lettersOf(int protein, boolean turned) {
            String letters = proteins.get(protein);
            return turned ? new StringBuilder(letters).reverse().toString() : letters;
        }

        boolean isPlace(String letters, int i) {
            return i == 0 || i == letters.length()
                || cuts[letters.charAt(i - 1) - 'A'] && !stops[letters.charAt(i) - 'A'];
        }

        List<int[]> peptides(String letters) {
            List<int[]> found = new ArrayList<>();
            for (int begin = 0; begin < letters.length(); begin++) {
                for (int length = 1; length <= 30 && begin + length <= letters.length(); length++) {
                    int between = 0;
                    for (int i = begin + 1; i < begin + length; i++) {
                        between += isPlace(letters, i) ? 1 : 0;
                    }
                    if (isPlace(letters, begin) && isPlace(letters, begin + length) && between <= missed) {
                        found.add(new int[] {begin, length});
                    }
                }
            }
            return found;
        }

        List<Form> formsOf(int protein, boolean turned, int[] peptide) {
            String all = lettersOf(protein, turned);
            int[] letters = new int[peptide[1]];
            long weight = water;
            List<Form> found = new ArrayList<>();
            for (int i = 0; i < letters.length; i++) {
                letters[i] = all.charAt(peptide[0] + i) - 'A';
                if (mass[letters[i]] == 0) {
                    return found;
                }
                weight += mass[letters[i]];
            }
            grow(new Form(protein, turned, peptide[0], letters, new int[letters.length], weight), 0, 0, found);
            return found;
        }

        void grow(Form form, int at, int used, List<Form> found) {
            if (at == form.letters().length) {
                if (form.weight() > 0) {
                    found.add(form);
                }
                return;
            }
            form.changes()[at] = -1;
            grow(form, at + 1, used, found);
            for (int c = 0; c < 4 && used < most; c++) {
                if (changeLetter[c] == form.letters()[at]) {
                    int[] changes = form.changes().clone();
                    changes[at] = c;
                    grow(new Form(form.protein(), form.turned(), form.begin(), form.letters(), changes,
                        form.weight() + changeMore[c]), at + 1, used + 1, found);
                }
            }
        }

        long massOf(int spectrum) {
            return spectra.get(spectrum)[1] * (spectra.get(spectrum)[0] - proton);
        }

        boolean isCandidate(Form form, int spectrum) {
            long its = massOf(spectrum);
            return its > 0 && 1000000 * Math.abs(form.weight() - its) <= parts * its;
        }

        int scoreOf(Form form, int spectrum) {
            int score = 0;
            int n = form.letters().length;
            for (int i = 1; i < n; i++) {
                score += isNear(sum(form, 0, i) + proton, spectrum) ? 1 : 0;
                score += isNear(sum(form, n - i, n) + water + proton, spectrum) ? 1 : 0;
            }
            return score;
        }

        long sum(Form form, int from, int to) {
            long sum = 0;
            for (int i = from; i < to; i++) {
                sum += mass[form.letters()[i]] + (form.changes()[i] < 0 ? 0 : changeMore[form.changes()[i]]);
            }
            return sum;
        }

        boolean isNear(long ion, int spectrum) {
            for (int k = 2; k < spectra.get(spectrum).length; k++) {
                if (Math.abs(spectra.get(spectrum)[k] - ion) <= near) {
                    return true;
                }
            }
            return false;
        }

        boolean isBefore(Form a, Form b) {
            int[] as = {a.turned() ? 1 : 0, a.protein(), a.begin(), a.letters().length};
            int[] bs = {b.turned() ? 1 : 0, b.protein(), b.begin(), b.letters().length};
            int first = java.util.Arrays.compare(as, bs);
            return first < 0 || first == 0 && java.util.Arrays.compare(a.changes(), b.changes()) < 0;
        }

        void seek() {
            forms = new ArrayList<>();
            for (int k = proteins.size() - 1; k >= 0; k--) {
                for (boolean turned : new boolean[] {true, false}) {
                    for (int[] peptide : peptides(lettersOf(k, turned))) {
                        forms.addAll(formsOf(k, turned, peptide));
                    }
                }
            }
            best.clear();
            scores.clear();
            for (int s = 0; s < spectra.size(); s++) {
                Form found = null;
                int score = 0;
                for (Form form : forms) {
                    int its = isCandidate(form, s) ? scoreOf(form, s) : 0;
                    if (its > score || its > 0 && its == score && isBefore(form, found)) {
                        found = form;
                        score = its;
                    }
                }
                best.add(found);
                scores.add(score);
            }
        }

        int candidates(int spectrum) {
            int found = 0;
            for (Form form : forms) {
                found += isCandidate(form, spectrum) ? 1 : 0;
            }
            return found;
        }

        int[] rate(int score) {
            int[] least = {1, 1};
            for (int t = 1; t <= score; t++) {
                int a = 0;
                int b = 0;
                for (int s = 0; s < spectra.size(); s++) {
                    if (scores.get(s) >= t) {
                        a += best.get(s).turned() ? 1 : 0;
                        b += best.get(s).turned() ? 0 : 1;
                    }
                }
                if (b != 0 && a <= b && a * least[1] < least[0] * b) {
                    least = new int[] {a, b};
                }
            }
            int common = java.math.BigInteger.valueOf(least[0]).gcd(java.math.BigInteger.valueOf(least[1])).intValue();
            return new int[] {least[0] / common, least[1] / common};
        }

        boolean holds(int protein, Form form) {
            String letters = proteins.get(protein);
            for (int[] peptide : peptides(letters)) {
                StringBuilder text = new StringBuilder();
                for (int letter : form.letters()) {
                    text.append((char) ('A' + letter));
                }
                if (letters.substring(peptide[0], peptide[0] + peptide[1]).contentEquals(text)) {
                    return true;
                }
            }
            return false;
        }

        boolean explains(int set, int p, int q) {
            for (int s = 0; s < spectra.size(); s++) {
                Form form = best.get(s);
                if (form == null || form.turned()) {
                    continue;
                }
                int[] rate = rate(scores.get(s));
                boolean held = rate[0] * q > p * rate[1];
                for (int k = 0; k < proteins.size(); k++) {
                    held |= (set >> k & 1) != 0 && holds(k, form);
                }
                if (!held) {
                    return false;
                }
            }
            return true;
        }

        int fewest(int p, int q) {
            int fewest = -1;
            for (int set = 0; set < 1 << proteins.size(); set++) {
                if (explains(set, p, q) && (fewest == -1 || Integer.bitCount(set) < Integer.bitCount(fewest)
                        || Integer.bitCount(set) == Integer.bitCount(fewest)
                            && Integer.compareUnsigned(Integer.reverse(set), Integer.reverse(fewest)) > 0)) {
                    fewest = set;
                }
            }
            return fewest;
        }
    }

    public static void main(String[] args) {
        for (int run = 0; run < 400; run++) {
            searchRun(run);
        }
        for (int run = 0; run < 3000; run++) {
            textRun(run);
        }
        CHECK.end();
    }

    private static void choose(Model m) {
        for (int k = 0; k < LETTERS.length(); k++) {
            int letter = LETTERS.charAt(k) - 'A';
            m.mass[letter] = upTo(12) == 0 ? 0 : 1000000 * (1 + upTo(6));
            m.cuts[letter] = upTo(4) == 0 || k == 3 && upTo(4) > 0;
            m.stops[letter] = upTo(6) == 0;
        }
        for (int c = 0; c < 4; c++) {
            m.changeLetter[c] = upTo(3) == 0 ? -1 : LETTERS.charAt(upTo(4)) - 'A';
            m.changeMore[c] = 1000000 * (upTo(4) == 0 ? upTo(60) - 40 : upTo(7) - 3);
        }
        m.missed = upTo(4);
        m.most = upTo(3);
        m.parts = upTo(3) == 0 ? 1000000 : upTo(3) == 0 ? 0 : upTo(300000);
        m.near = upTo(2) == 0 ? 0 : upTo(3000001);
        m.water = 1000000 * upTo(20);
        m.proton = 1000000 * upTo(3);
    }

    private static void settle(Model m, PeptideSearch x) {
        for (char c : LETTERS.toCharArray()) {
            x.letter(c - 'A', m.mass[c - 'A'], m.cuts[c - 'A'], m.stops[c - 'A']);
        }
        for (int c = 0; c < 4; c++) {
            x.change(c, m.changeLetter[c], m.changeMore[c]);
        }
        x.limits(m.missed, m.most);
        x.windows((int) m.parts, (int) m.near);
        x.extras((int) m.water, (int) m.proton);
    }

    private static String someLetters(int most) {
        StringBuilder text = new StringBuilder();
        for (int k = 1 + upTo(most); k > 0; k--) {
            text.append(LETTERS.charAt(upTo(4)));
        }
        return text.toString();
    }

    private static String typedProteins(Model m, int most) {
        StringBuilder text = new StringBuilder();
        String shared = someLetters(6);
        for (int k = upTo(6); k >= 0; k--) {
            String letters = upTo(2) == 0 ? someLetters(most) : (someLetters(4) + shared + someLetters(4));
            m.proteins.add(letters);
            int cut = upTo(letters.length());
            text.append(">p").append(k).append('\n').append(letters, 0, cut).append(cut > 0 ? "\n" : "")
                .append(letters.substring(cut)).append('\n');
        }
        return text.toString();
    }

    private static String decimal(long mass) {
        return mass % 1000000 == 0 ? String.valueOf(mass / 1000000)
            : mass / 1000000 + "." + String.format("%06d", mass % 1000000);
    }

    private static String typedSpectra(Model m) {
        StringBuilder text = new StringBuilder();
        for (int k = upTo(8); k >= 0; k--) {
            int peaks = upTo(12);
            long[] spectrum = new long[2 + peaks];
            spectrum[0] = 1000000L * upTo(80) + (upTo(3) == 0 ? upTo(1000000) : 0);
            spectrum[1] = 1 + (upTo(3) == 0 ? upTo(5) : 0);
            text.append("BEGIN IONS\nPEPMASS=").append(decimal(spectrum[0])).append("\nCHARGE=").append(spectrum[1])
                .append("+\n");
            for (int i = 2; i < spectrum.length; i++) {
                spectrum[i] = 1000000L * upTo(60) + (upTo(4) == 0 ? upTo(1000000) : 0);
                text.append(decimal(spectrum[i])).append('\n');
            }
            text.append("END IONS\n");
            m.spectra.add(spectrum);
        }
        return text.toString();
    }

    private static void searchRun(int run) {
        Model m = new Model();
        PeptideSearch x = new PeptideSearch();
        String what = "run " + run + ": ";
        String proteins = typedProteins(m, run % 10 == 0 ? 60 : 14);
        CHECK.due(what + "proteins", Check.proteins(x, proteins), m.proteins.size());
        CHECK.due(what + "spectra", Check.spectra(x, typedSpectra(m)), m.spectra.size());
        for (int round = 0; round < 2; round++) {
            choose(m);
            settle(m, x);
            comparePeptides(what, m, proteins);
            m.seek();
            int matched = 0;
            for (Form form : m.best) {
                matched += form == null ? 0 : 1;
            }
            CHECK.due(what + "search", x.search(), matched);
            for (int s = 0; s < m.spectra.size(); s++) {
                compareSpectrum(what + "spectrum " + s + ": ", m, x, s);
            }
            int[][] fractions = {{0, 1}, {1, 4}, {1, 3}, {1, 2}, {2, 3}, {1, 1}};
            for (int[] f : fractions) {
                CHECK.due(what + "explain", x.explain(f[0], f[1]), m.fewest(f[0], f[1]));
            }
        }
    }

    /** Each question has an object of its own, so that none is used for more than its 512 calls. */
    private static void comparePeptides(String what, Model m, String proteins) {
        int protein = upTo(m.proteins.size());
        for (boolean turned : new boolean[] {false, true}) {
            String letters = m.lettersOf(protein, turned);
            List<int[]> peptides = m.peptides(letters);
            for (int question = 0; question < 4; question++) {
                PeptideSearch x = new PeptideSearch();
                Check.proteins(x, proteins);
                settle(m, x);
                CHECK.due(what + "peptides", x.size(protein, turned ? 3 : 2), peptides.size());
                CHECK.due(what + "residue", x.residue(protein, turned, 0), letters.charAt(0) - 'A');
                for (int i = 0; i < peptides.size(); i++) {
                    long got = question == 3 ? x.weight(protein, turned, i) : x.peptide(protein, turned, i, question);
                    List<Form> forms = m.formsOf(protein, turned, peptides.get(i));
                    long[] want = {peptides.get(i)[0], peptides.get(i)[1], forms.size(), plainWeight(m, forms)};
                    CHECK.due(what + "question " + question + " of peptide " + i, got, want[question]);
                }
            }
        }
    }

    private static long plainWeight(Model m, List<Form> forms) {
        if (forms.isEmpty()) {
            return 0;
        }
        return m.water + m.sum(new Form(0, false, 0, forms.get(0).letters(), minus(forms.get(0).letters().length), 0),
            0, forms.get(0).letters().length);
    }

    private static int[] minus(int n) {
        int[] row = new int[n];
        java.util.Arrays.fill(row, -1);
        return row;
    }

    private static void compareSpectrum(String what, Model m, PeptideSearch x, int s) {
        CHECK.due(what + "mass", x.peak(s, -1), m.massOf(s));
        CHECK.due(what + "candidates", x.candidates(s), m.candidates(s));
        Form form = m.best.get(s);
        if (form == null) {
            CHECK.throwing(what + "no match", Check.ELEMENT, () -> x.match(s, 0));
            return;
        }
        int[] want = {m.scores.get(s), form.protein(), form.turned() ? 1 : 0, form.begin(), form.letters().length};
        for (int k = 0; k < 5; k++) {
            CHECK.due(what + "match " + k, x.match(s, k), want[k]);
        }
        for (int i = 0; i < form.letters().length; i++) {
            CHECK.due(what + "change of " + i, x.changed(s, i), form.changes()[i]);
        }
        int[] rate = m.rate(m.scores.get(s));
        CHECK.due(what + "p", x.rate(s, 0), rate[0]);
        CHECK.due(what + "q", x.rate(s, 1), rate[1]);
    }

    private static final String DECIMAL = "[0-9]{1,5}(?:\\.[0-9]{1,6})?";
    private static final Pattern[] GRAMMARS = {
        Pattern.compile("(?:>[!-~]{1,12}\n[A-Z](?:\n?[A-Z]){0,59}\n){0,12}"),
        Pattern.compile("(?:BEGIN IONS\nPEPMASS=" + DECIMAL + "\nCHARGE=[1-5]\\+\n(?:" + DECIMAL
            + "\n){0,40}END IONS\n){0,12}"),
    };

    /** Where a text is wrong by the grammar: the first beginning of it that no further text makes good. */
    private static int wrongPlace(Pattern grammar, String text) {
        if (grammar.matcher(text).matches()) {
            return -1;
        }
        for (int end = 1; end <= text.length(); end++) {
            Matcher matcher = grammar.matcher(text.substring(0, end));
            if (!matcher.matches() && !matcher.hitEnd()) {
                return end - 1;
            }
        }
        return text.length();
    }

    private static void textRun(int run) {
        int which = run % 2;
        StringBuilder text = new StringBuilder(which == 0 ? typedProteins(new Model(), 60) : typedSpectra(new Model()));
        for (int k = upTo(3); k > 0 && text.length() > 0; k--) {
            damage(text);
        }
        PeptideSearch x = new PeptideSearch();
        Check.typeAll(x, text.toString());
        int place = wrongPlace(GRAMMARS[which], text.toString());
        int found = x.read(which);
        CHECK.due("text " + run + " is good", found == -1 ? 0 : 1, place == -1 ? 1 : 0);
        CHECK.due("place in text " + run, x.place(), place);
    }

    private static void damage(StringBuilder text) {
        String some = "\n>.AZ09+E aB5";
        int at = upTo(text.length());
        char c = some.charAt(upTo(some.length()));
        switch (upTo(4)) {
            case 0 -> text.setLength(at);
            case 1 -> text.insert(at, c);
            case 2 -> text.setCharAt(at, c);
            default -> text.deleteCharAt(at);
        }
    }
}
