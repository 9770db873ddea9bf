/** Promises 5 to 10: letter, change, limits, windows, extras, count. */
public final class SettingsTest {
    private static final Check CHECK = new Check();

    public static void main(String[] args) {
        letters();
        changes();
        limits();
        windows();
        extras();
        counts();
        eachMakesSearchStale();
        throwsChangeNothing();
        CHECK.end();
    }

    private static void letters() {
        PeptideSearch x = new PeptideSearch();
        Check.proteins(x, ">n\nAZAZ\n");
        x.letter(25, 1000000000, true, false);
        CHECK.due("Z cuts", x.size(0, 2), 2);
        CHECK.due("A is not known", x.weight(0, false, 0), 0);
        x.letter(0, 1, false, false);
        CHECK.due("the greatest and the least mass", x.weight(0, false, 0), 1018000001);
        x.letter(0, 1, false, true);
        CHECK.due("A stops", x.size(0, 2), 1);
        x.letter(0, 1, true, true);
        CHECK.due("A cuts and stops", x.size(0, 2), 3);
        x.letter(0, 0, false, false);
        CHECK.due("A is not known again", x.weight(0, false, 0), 0);
        for (int letter : new int[] {-1, 26, Integer.MIN_VALUE, Integer.MAX_VALUE}) {
            CHECK.throwing("letter " + letter, Check.INDEX, () -> x.letter(letter, 1, false, false));
            CHECK.throwing("letter first, " + letter, Check.INDEX, () -> x.letter(letter, -1, false, false));
        }
        for (int mass : new int[] {-1, 1000000001, Integer.MIN_VALUE, Integer.MAX_VALUE}) {
            CHECK.throwing("mass " + mass, Check.ARGUMENT, () -> x.letter(0, mass, false, false));
        }
    }

    private static void changes() {
        PeptideSearch x = Check.withLetters();
        Check.proteins(x, ">n\nAAB\n");
        x.limits(0, 2);
        x.change(3, 0, 1000000000);
        CHECK.due("one change", x.peptide(0, false, 0, 2), 4);
        x.change(0, 1, -1);
        CHECK.due("two changes", x.peptide(0, false, 0, 2), 7);
        x.change(3, 0, -1000000000);
        CHECK.due("forms that weigh too little", x.peptide(0, false, 0, 2), 2);
        x.change(3, -1, 0);
        CHECK.due("a change is taken away", x.peptide(0, false, 0, 2), 2);
        x.change(0, 25, 0);
        CHECK.due("a change of another letter", x.peptide(0, false, 0, 2), 1);
        for (int change : new int[] {-1, 4, Integer.MIN_VALUE, Integer.MAX_VALUE}) {
            CHECK.throwing("change " + change, Check.INDEX, () -> x.change(change, 0, 0));
            CHECK.throwing("change first, " + change, Check.INDEX, () -> x.change(change, 26, 0));
        }
        for (int letter : new int[] {-2, 26, Integer.MIN_VALUE, Integer.MAX_VALUE}) {
            CHECK.throwing("change of letter " + letter, Check.ARGUMENT, () -> x.change(0, letter, 0));
        }
        for (int more : new int[] {-1000000001, 1000000001, Integer.MIN_VALUE, Integer.MAX_VALUE}) {
            CHECK.throwing("more " + more, Check.ARGUMENT, () -> x.change(0, 0, more));
            CHECK.throwing("of no letter " + more, Check.ARGUMENT, () -> x.change(0, -1, more));
        }
    }

    private static void limits() {
        PeptideSearch x = Check.withLetters();
        Check.proteins(x, ">n\nKKKKKK\n");
        int[] sizes = {6, 11, 15, 18};
        for (int missed = 0; missed <= 3; missed++) {
            x.limits(missed, 0);
            CHECK.due("MISSED " + missed, x.size(0, 2), sizes[missed]);
        }
        x.change(0, 10, 1);
        int[] forms = {1, 5, 11};
        for (int most = 0; most <= 2; most++) {
            x.limits(3, most);
            CHECK.due("MOST " + most, x.peptide(0, false, 3, 2), forms[most]);
        }
        for (int wrong : new int[] {-1, 4, Integer.MIN_VALUE, Integer.MAX_VALUE}) {
            CHECK.throwing("MISSED " + wrong, Check.ARGUMENT, () -> x.limits(wrong, 0));
        }
        for (int wrong : new int[] {-1, 3, Integer.MIN_VALUE, Integer.MAX_VALUE}) {
            CHECK.throwing("MOST " + wrong, Check.ARGUMENT, () -> x.limits(0, wrong));
        }
    }

    private static void windows() {
        PeptideSearch x = new PeptideSearch();
        x.windows(0, 0);
        x.windows(1000000, 1000000000);
        for (int wrong : new int[] {-1, 1000001, Integer.MIN_VALUE, Integer.MAX_VALUE}) {
            CHECK.throwing("PARTS " + wrong, Check.ARGUMENT, () -> x.windows(wrong, 0));
        }
        for (int wrong : new int[] {-1, 1000000001, Integer.MIN_VALUE, Integer.MAX_VALUE}) {
            CHECK.throwing("NEAR " + wrong, Check.ARGUMENT, () -> x.windows(0, wrong));
        }
    }

    private static void extras() {
        PeptideSearch x = Check.withLetters();
        Check.proteins(x, ">n\nA\n");
        Check.spectra(x, Check.spectrum("10", 3));
        x.extras(0, 0);
        CHECK.due("no water", x.weight(0, false, 0), 10000000);
        CHECK.due("no protons", x.peak(0, -1), 30000000);
        x.extras(1000000000, 1000000000);
        CHECK.due("much water", x.weight(0, false, 0), 1010000000);
        CHECK.due("much protons", x.peak(0, -1), -2970000000L);
        for (int wrong : new int[] {-1, 1000000001, Integer.MIN_VALUE, Integer.MAX_VALUE}) {
            CHECK.throwing("WATER " + wrong, Check.ARGUMENT, () -> x.extras(wrong, 0));
            CHECK.throwing("PROTON " + wrong, Check.ARGUMENT, () -> x.extras(0, wrong));
        }
    }

    private static void counts() {
        PeptideSearch x = new PeptideSearch();
        Check.proteins(x, ">n\nA\n>m\nB\n>o\nC\n");
        Check.spectra(x, Check.spectrum("10", 3) + Check.spectrum("10", 3));
        CHECK.due("proteins", x.count(0), 3);
        CHECK.due("spectra", x.count(1), 2);
        for (int wrong : new int[] {-1, 2, Integer.MIN_VALUE, Integer.MAX_VALUE}) {
            CHECK.throwing("count " + wrong, Check.ARGUMENT, () -> x.count(wrong));
        }
    }

    private static void stale(String what, boolean stale, PeptideSearch x, Check.Act act) {
        x.search();
        act.run();
        String want = stale ? Check.STATE : "nothing";
        CHECK.throwing("explain after " + what, want, () -> x.explain(1, 1));
        CHECK.throwing("candidates after " + what, want, () -> x.candidates(0));
        String noMatch = stale ? Check.STATE : Check.ELEMENT;
        CHECK.throwing("match after " + what, noMatch, () -> x.match(0, 0));
        CHECK.throwing("changed after " + what, noMatch, () -> x.changed(0, 0));
        CHECK.throwing("rate after " + what, noMatch, () -> x.rate(0, 0));
    }

    private static void eachMakesSearchStale() {
        PeptideSearch x = new PeptideSearch();
        String spectrum = Check.spectrum("10", 3);
        Check.spectra(x, spectrum);
        stale("nothing", false, x, () -> { });
        stale("letter as it was", true, x, () -> x.letter(0, 0, false, false));
        stale("change as it was", true, x, () -> x.change(0, -1, 0));
        stale("limits as they were", true, x, () -> x.limits(0, 0));
        stale("windows as they were", true, x, () -> x.windows(0, 0));
        stale("extras as they were", true, x, () -> x.extras(18000000, 1000000));
        stale("type", false, x, () -> Check.typeAll(x, spectrum));
        stale("read as it was", true, x, () -> x.read(1));
        stale("read of no proteins", true, x, () -> x.read(0));
        stale("a read that is NONE", false, x, () -> Check.proteins(x, "-"));
        stale("a spectra read that is NONE", false, x, () -> Check.spectra(x, "-"));
        stale("queries", false, x, () -> {
            x.count(0);
            x.place();
            x.peak(0, -1);
        });
        stale("search", false, x, () -> x.search());
    }

    private static void throwsChangeNothing() {
        PeptideSearch x = Check.withLetters();
        Check.proteins(x, ">n\nAK\n");
        Check.spectra(x, Check.spectrum("10", 3));
        stale("wrong letters", false, x, () -> {
            Check.thrownBy(() -> x.letter(26, 0, false, false));
            Check.thrownBy(() -> x.letter(0, -1, true, false));
            Check.thrownBy(() -> x.change(4, 0, 0));
            Check.thrownBy(() -> x.change(0, 26, 0));
            Check.thrownBy(() -> x.limits(4, 0));
            Check.thrownBy(() -> x.windows(-1, 0));
            Check.thrownBy(() -> x.extras(-1, 0));
            Check.thrownBy(() -> x.extras(5, -1));
            Check.thrownBy(() -> x.limits(3, 3));
            Check.thrownBy(() -> x.read(2));
            Check.thrownBy(() -> x.type(0, 0));
        });
        CHECK.due("pieces as before", x.size(0, 2), 1);
        CHECK.due("weight as before", x.weight(0, false, 0), 88000000);
    }
}
