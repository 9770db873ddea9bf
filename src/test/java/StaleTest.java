/** What counts as a change since the search, and what does not. */
public final class StaleTest {
    private static final Check CHECK = new Check();

    private interface Step {
        void on(PeptideSearch x);
    }

    public static void main(String[] args) {
        CHECK.holds("nothing was searched since something was changed: a new object", StaleTest::newObject);
        CHECK.holds("(the text apart", StaleTest::textApart);
        CHECK.holds("letter() changes something with the numbers that were there, too", StaleTest::sameLetter);
        CHECK.holds("change() changes something with the numbers that were there, too", StaleTest::sameChange);
        CHECK.holds("limits() changes something with the numbers that were there, too", StaleTest::sameLimits);
        CHECK.holds("windows() changes something with the numbers that were there, too", StaleTest::sameWindows);
        CHECK.holds("extras() changes something with the numbers that were there, too", StaleTest::sameExtras);
        CHECK.holds("and so does a read() of the same text that does not answer NONE", StaleTest::sameText);
        CHECK.holds("An empty text is one of none: a read() of it does not answer NONE", StaleTest::emptyText);
        CHECK.holds("read: or NONE, and nothing else is changed", StaleTest::wrongText);
        CHECK.holds("A call that throws changes nothing", StaleTest::thrown);
        CHECK.holds("calls that ask change nothing", StaleTest::asking);
        CHECK.holds("search: All spectra get their matches, again and again", StaleTest::searchedAgain);
        CHECK.end();
    }

    private static void needsSearch(String what, PeptideSearch x) {
        CHECK.throwing("candidates behind " + what, Check.STATE, () -> x.candidates(0));
        CHECK.throwing("match behind " + what, Check.STATE, () -> x.match(0, 0));
        CHECK.throwing("changed behind " + what, Check.STATE, () -> x.changed(0, 0));
        CHECK.throwing("rate behind " + what, Check.STATE, () -> x.rate(0, 0));
        CHECK.throwing("explain behind " + what, Check.STATE, () -> x.explain(1, 1));
    }

    /** All is as before but for this: the spectra must be searched again. */
    private static void stale(String what, int place, Step step) {
        PeptideSearch x = State.searched();
        String before = State.of(x);
        step.on(x);
        needsSearch(what, x);
        x.search();
        CHECK.same("all searched again behind " + what, State.of(x), State.withPlace(before, place));
    }

    private static void fresh(String what, int place, Step step) {
        PeptideSearch x = State.searched();
        String before = State.of(x);
        step.on(x);
        CHECK.same("all behind " + what, State.of(x), State.withPlace(before, place));
    }

    private static void newObject() {
        PeptideSearch x = new PeptideSearch();
        needsSearch("nothing at all", x);
        x.search();
        CHECK.throwing("searched: there is no spectrum", Check.INDEX, () -> x.candidates(0));
        CHECK.due("searched: nothing to explain", x.explain(1, 1), 0);
    }

    private static void textApart() {
        fresh("type", State.PLACE, x -> x.type(65, 1));
        fresh("type of whole proteins", State.PLACE, x -> Check.typeAll(x, "\n>m\nB\n"));
    }

    private static void sameLetter() {
        stale("letter", State.PLACE, x -> x.letter(State.LETTER, 30000000, false, false));
        stale("letter that no protein has", State.PLACE, x -> x.letter(25, 0, false, false));
    }

    private static void sameChange() {
        stale("change", State.PLACE, x -> x.change(State.CHANGE, 0, State.MORE));
        stale("change of no letter", State.PLACE, x -> x.change(0, -1, 0));
    }

    private static void sameLimits() {
        stale("limits", State.PLACE, x -> x.limits(1, 1));
    }

    private static void sameWindows() {
        stale("windows", State.PLACE, x -> x.windows(10000, 500000));
    }

    private static void sameExtras() {
        stale("extras", State.PLACE, x -> x.extras(20000000, 2000000));
    }

    private static void sameText() {
        stale("the same proteins", -1, x -> {
            x.read(0);
            Check.proteins(x, State.PROTEIN_TEXT);
        });
        stale("the same spectra", -1, x -> {
            x.read(0);
            Check.spectra(x, State.spectra());
        });
    }

    private static void emptyText() {
        PeptideSearch x = State.searched();
        x.read(0);
        CHECK.due("it is searched still", x.candidates(0), 2);
        CHECK.due("no proteins", x.read(0), 0);
        needsSearch("a read of no proteins", x);
        x.search();
        CHECK.due("no spectra", x.read(1), 0);
        needsSearch("a read of no spectra", x);
        x.search();
        CHECK.due("no spectra again", x.read(1), 0);
        needsSearch("the same read of no spectra", x);
    }

    private static void wrongText() {
        fresh("half a text of proteins", 4, x -> CHECK.due("half a text", x.read(0), -1));
        fresh("a text of proteins that is no text of spectra", 0, x -> CHECK.due("no spectra", x.read(1), -1));
        String proteins = ">x\nZ\n>y\nYYYY\n>z\nXX\n>z\n";
        fresh("a wrong protein behind good ones", proteins.length(), x -> {
            x.read(0);
            CHECK.due("proteins", Check.proteins(x, proteins + "-"), -1);
        });
        String spectrum = Check.spectrum("7", 5, "8");
        fresh("a wrong spectrum behind a good one", spectrum.length(), x -> {
            x.read(0);
            CHECK.due("spectra", Check.spectra(x, spectrum + "-"), -1);
        });
    }

    private static void thrown() {
        fresh("refused calls", State.PLACE, x -> {
            CHECK.throwing("letter", Check.ARGUMENT, () -> x.letter(0, -1, true, true));
            CHECK.throwing("change", Check.ARGUMENT, () -> x.change(0, 26, 0));
            CHECK.throwing("limits", Check.ARGUMENT, () -> x.limits(4, 0));
            CHECK.throwing("windows", Check.ARGUMENT, () -> x.windows(-1, 0));
            CHECK.throwing("extras", Check.ARGUMENT, () -> x.extras(-1, 0));
            CHECK.throwing("read", Check.ARGUMENT, () -> x.read(2));
            CHECK.throwing("type", Check.ARGUMENT, () -> x.type(0, 1));
        });
    }

    private static void asking() {
        fresh("questions", State.PLACE, State::of);
    }

    private static void searchedAgain() {
        fresh("search", State.PLACE, x -> CHECK.due("search", x.search(), 2));
        PeptideSearch x = State.made();
        CHECK.due("once", x.search(), 2);
        CHECK.due("twice", x.search(), 2);
        x.windows(10000, 0);
        CHECK.due("no peak is near", x.search(), 0);
        CHECK.throwing("a match of before", Check.ELEMENT, () -> x.match(0, 0));
        CHECK.due("candidates are not added up", x.candidates(0), 2);
        x.windows(0, 500000);
        CHECK.due("no mass is that of a form", x.search(), 0);
        CHECK.due("candidates of before", x.candidates(0), 0);
    }
}
