/** Promises 11 to 16: residue, size, name, peptide, weight, peak. */
public final class ProteinTest {
    private static final Check CHECK = new Check();
    private static final int[] FAR = {Integer.MIN_VALUE, Integer.MAX_VALUE};

    public static void main(String[] args) {
        residues();
        sizes();
        names();
        peptides();
        longPeptides();
        turnedPeptides();
        forms();
        weights();
        peaks();
        CHECK.end();
    }

    private static void residues() {
        PeptideSearch x = new PeptideSearch();
        Check.proteins(x, ">n\nABZ\nC\n>m\nY\n");
        int[] letters = {0, 1, 25, 2};
        for (int i = 0; i < 4; i++) {
            CHECK.due("letter " + i, x.residue(0, false, i), letters[i]);
            CHECK.due("turned letter " + i, x.residue(0, true, i), letters[3 - i]);
        }
        CHECK.due("another protein", x.residue(1, false, 0), 24);
        CHECK.due("another one turned", x.residue(1, true, 0), 24);
        CHECK.throwing("letter -1", Check.INDEX, () -> x.residue(0, false, -1));
        CHECK.throwing("letter 4", Check.INDEX, () -> x.residue(0, true, 4));
        CHECK.throwing("letter 1 of the other", Check.INDEX, () -> x.residue(1, false, 1));
        CHECK.throwing("protein 2", Check.INDEX, () -> x.residue(2, false, 0));
        CHECK.throwing("protein -1", Check.INDEX, () -> x.residue(-1, false, 0));
        for (int far : FAR) {
            CHECK.throwing("letter " + far, Check.INDEX, () -> x.residue(0, true, far));
            CHECK.throwing("protein " + far, Check.INDEX, () -> x.residue(far, true, 0));
        }
    }

    private static void sizes() {
        PeptideSearch x = Check.withLetters();
        Check.proteins(x, ">name\nAKBKPCK\nD\n");
        CHECK.due("letters", x.size(0, 0), 8);
        CHECK.due("characters", x.size(0, 1), 4);
        CHECK.due("peptides", x.size(0, 2), 3);
        CHECK.due("turned peptides", x.size(0, 3), 4);
        CHECK.throwing("what 4", Check.ARGUMENT, () -> x.size(0, 4));
        CHECK.throwing("what -1", Check.ARGUMENT, () -> x.size(0, -1));
        CHECK.throwing("protein 1", Check.INDEX, () -> x.size(1, 0));
        CHECK.throwing("protein first", Check.INDEX, () -> x.size(-1, 4));
        for (int far : FAR) {
            CHECK.throwing("what " + far, Check.ARGUMENT, () -> x.size(0, far));
            CHECK.throwing("protein " + far, Check.INDEX, () -> x.size(far, 0));
        }
    }

    private static void names() {
        PeptideSearch x = new PeptideSearch();
        Check.proteins(x, ">!>~\nA\n>123456789abc\nA\n");
        CHECK.due("first", x.name(0, 0), '!');
        CHECK.due("second", x.name(0, 1), '>');
        CHECK.due("third", x.name(0, 2), '~');
        CHECK.due("the last of twelve", x.name(1, 11), 'c');
        CHECK.throwing("character 3", Check.INDEX, () -> x.name(0, 3));
        CHECK.throwing("character 12", Check.INDEX, () -> x.name(1, 12));
        CHECK.throwing("character -1", Check.INDEX, () -> x.name(0, -1));
        CHECK.throwing("protein 2", Check.INDEX, () -> x.name(2, 0));
        CHECK.throwing("protein -1", Check.INDEX, () -> x.name(-1, 0));
        for (int far : FAR) {
            CHECK.throwing("character " + far, Check.INDEX, () -> x.name(0, far));
            CHECK.throwing("protein " + far, Check.INDEX, () -> x.name(far, 0));
        }
    }

    private static void list(PeptideSearch x, boolean turned, int[] begins, int[] lengths) {
        CHECK.due("how many", x.size(0, turned ? 3 : 2), begins.length);
        for (int i = 0; i < begins.length; i++) {
            CHECK.due("begin of " + i, x.peptide(0, turned, i, 0), begins[i]);
            CHECK.due("letters of " + i, x.peptide(0, turned, i, 1), lengths[i]);
        }
        CHECK.throwing("one more", Check.INDEX, () -> x.peptide(0, turned, begins.length, 0));
    }

    private static void peptides() {
        PeptideSearch x = Check.withLetters();
        Check.proteins(x, ">n\nAAKBKPKCK\n");
        list(x, false, new int[] {0, 3, 7}, new int[] {3, 4, 2});
        x.limits(1, 0);
        list(x, false, new int[] {0, 0, 3, 3, 7}, new int[] {3, 7, 4, 6, 2});
        x.limits(3, 0);
        list(x, false, new int[] {0, 0, 0, 3, 3, 7}, new int[] {3, 7, 9, 4, 6, 2});
        CHECK.throwing("peptide -1", Check.INDEX, () -> x.peptide(0, false, -1, 0));
        CHECK.throwing("protein 1", Check.INDEX, () -> x.peptide(1, false, 0, 0));
        CHECK.throwing("protein -1", Check.INDEX, () -> x.peptide(-1, false, 0, 0));
        CHECK.throwing("what 3", Check.ARGUMENT, () -> x.peptide(0, false, 0, 3));
        CHECK.throwing("what -1", Check.ARGUMENT, () -> x.peptide(0, false, 0, -1));
        CHECK.throwing("the peptide first", Check.INDEX, () -> x.peptide(0, false, 6, 3));
        for (int far : FAR) {
            CHECK.throwing("peptide " + far, Check.INDEX, () -> x.peptide(0, false, far, 0));
            CHECK.throwing("protein " + far, Check.INDEX, () -> x.peptide(far, false, 0, 0));
            CHECK.throwing("what " + far, Check.ARGUMENT, () -> x.peptide(0, false, 0, far));
        }
    }

    private static void longPeptides() {
        PeptideSearch x = Check.withLetters();
        x.limits(3, 0);
        Check.proteins(x, ">n\n" + Check.repeated("A", 29) + "K" + Check.repeated("A", 30) + "\n");
        list(x, false, new int[] {0, 30}, new int[] {30, 30});
        Check.proteins(x, ">n\n" + Check.repeated("A", 30) + "KA\n");
        list(x, false, new int[] {31}, new int[] {1});
        Check.proteins(x, ">n\n" + Check.repeated("A", 31) + "\n");
        list(x, false, new int[0], new int[0]);
        Check.proteins(x, ">n\n" + Check.repeated("K", 60) + "\n");
        CHECK.due("most peptides of all", x.size(0, 2), 234);
        CHECK.due("most turned ones", x.size(0, 3), 234);
        CHECK.due("begin of the last", x.peptide(0, false, 233, 0), 59);
        CHECK.throwing("behind the last", Check.INDEX, () -> x.peptide(0, false, 234, 0));
    }

    private static void turnedPeptides() {
        PeptideSearch x = Check.withLetters();
        x.limits(1, 0);
        Check.proteins(x, ">n\nAPKBCKA\n");
        list(x, false, new int[] {0, 0, 3, 3, 6}, new int[] {3, 6, 3, 4, 1});
        list(x, true, new int[] {0, 0, 2}, new int[] {2, 7, 5});
        CHECK.due("weight of AK", x.weight(0, true, 0), 88000000);
        CHECK.due("weight of CBKPA", x.weight(0, true, 2), 208000000);
    }

    private static void forms() {
        PeptideSearch x = Check.withLetters();
        Check.proteins(x, ">n\nABAC\n>m\nAXA\n>o\n" + Check.repeated("A", 30) + "\n");
        x.change(0, 0, 5000000);
        x.change(1, 0, 5000000);
        x.change(2, 1, 0);
        CHECK.due("MOST 0", x.peptide(0, false, 0, 2), 1);
        x.limits(0, 1);
        CHECK.due("equal changes are two", x.peptide(0, false, 0, 2), 6);
        x.limits(0, 2);
        CHECK.due("pairs", x.peptide(0, false, 0, 2), 14);
        CHECK.due("a letter is not known", x.peptide(1, false, 0, 2), 0);
        x.change(2, 0, 1);
        x.change(3, 0, 2);
        CHECK.due("most forms of all", x.peptide(2, false, 0, 2), 1 + 120 + 435 * 16);
        CHECK.due("turned", x.peptide(2, true, 0, 2), 1 + 120 + 435 * 16);
        lightForms();
    }

    private static void lightForms() {
        PeptideSearch x = Check.withLetters();
        Check.proteins(x, ">n\nAB\n");
        x.limits(0, 2);
        x.change(0, 0, -48000000);
        CHECK.due("a form that weighs 0", x.peptide(0, false, 0, 2), 1);
        x.change(0, 0, -47999999);
        CHECK.due("a form that weighs 1", x.peptide(0, false, 0, 2), 2);
        x.change(0, 0, -1000000000);
        x.change(1, 1, 1000000000);
        CHECK.due("two changes that make it good", x.peptide(0, false, 0, 2), 3);
    }

    private static void weights() {
        PeptideSearch x = Check.withLetters();
        Check.proteins(x, ">n\nAKBCKXK\n>m\n" + Check.repeated("Z", 30) + "\n");
        x.limits(0, 2);
        x.change(0, 0, 5);
        x.letter(25, 1000000000, false, false);
        x.extras(1000000000, 0);
        CHECK.due("AK", x.weight(0, false, 0), 1070000000);
        CHECK.due("BCK", x.weight(0, false, 1), 1110000000);
        CHECK.due("XK", x.weight(0, false, 2), 0);
        CHECK.due("turned K", x.weight(0, true, 0), 1060000000);
        CHECK.due("turned XK", x.weight(0, true, 1), 0);
        CHECK.due("the greatest", x.weight(1, false, 0), 31000000000L);
        CHECK.throwing("peptide 3", Check.INDEX, () -> x.weight(0, false, 3));
        CHECK.throwing("peptide -1", Check.INDEX, () -> x.weight(0, false, -1));
        CHECK.throwing("protein 2", Check.INDEX, () -> x.weight(2, false, 0));
        CHECK.throwing("protein -1", Check.INDEX, () -> x.weight(-1, false, 0));
        for (int far : FAR) {
            CHECK.throwing("peptide " + far, Check.INDEX, () -> x.weight(0, false, far));
            CHECK.throwing("protein " + far, Check.INDEX, () -> x.weight(far, false, 0));
        }
    }

    private static void peaks() {
        PeptideSearch x = new PeptideSearch();
        Check.spectra(x, Check.spectrum("99999.999999", 5, "7", "3.5", "7") + Check.spectrum("0", 4));
        CHECK.due("mass", x.peak(0, -1), 499994999995L);
        CHECK.due("a mass below 0", x.peak(1, -1), -4000000);
        CHECK.due("peak 0", x.peak(0, 0), 7000000);
        CHECK.due("peak 1 as it was typed", x.peak(0, 1), 3500000);
        CHECK.due("peak 2", x.peak(0, 2), 7000000);
        x.extras(0, 2000000);
        CHECK.due("mass with another proton", x.peak(1, -1), -8000000);
        CHECK.throwing("peak 3", Check.INDEX, () -> x.peak(0, 3));
        CHECK.throwing("peak -2", Check.INDEX, () -> x.peak(0, -2));
        CHECK.throwing("peak 0 of none", Check.INDEX, () -> x.peak(1, 0));
        CHECK.throwing("spectrum 2", Check.INDEX, () -> x.peak(2, -1));
        CHECK.throwing("spectrum -1", Check.INDEX, () -> x.peak(-1, -1));
        for (int far : FAR) {
            CHECK.throwing("peak " + far, Check.INDEX, () -> x.peak(0, far));
            CHECK.throwing("spectrum " + far, Check.INDEX, () -> x.peak(far, -1));
        }
    }
}
