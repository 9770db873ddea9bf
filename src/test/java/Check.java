import java.util.NoSuchElementException;

/** What the tests share: answers are compared, exceptions are told apart, texts are typed. */
final class Check {
    static final String INDEX = "IndexOutOfBoundsException";
    static final String ARGUMENT = "IllegalArgumentException";
    static final String STATE = "IllegalStateException";
    static final String ELEMENT = "NoSuchElementException";

    interface Call {
        long answer();
    }

    interface Act {
        void run();
    }

    private int wrong = 0;

    /** A test of one sentence of the document: the sentence is told behind the answers that break it. */
    void holds(String sentence, Act test) {
        int before = wrong;
        try {
            test.run();
        } catch (RuntimeException e) {
            wrong++;
            System.out.println("a call that should not have thrown threw " + e + " below " + e.getStackTrace()[0]);
        }
        if (wrong > before) {
            System.out.println("    so this does not hold: " + sentence);
        }
    }

    void due(String what, long got, long want) {
        if (got != want) {
            wrong++;
            System.out.println(what + " answered " + got + ", due is " + want);
        }
    }

    void same(String what, String got, String want) {
        if (!got.equals(want)) {
            wrong++;
            System.out.println(what + " is\n    " + got + "\ndue is\n    " + want);
        }
    }

    void throwing(String what, String want, Act act) {
        String got = thrownBy(act);
        if (!got.equals(want)) {
            wrong++;
            System.out.println(what + " threw " + got + ", due is " + want);
        }
    }

    /** The simple name of the very class that was thrown, so that no subclass passes for it. */
    static String thrownBy(Act act) {
        try {
            act.run();
            return "nothing";
        } catch (IndexOutOfBoundsException | IllegalArgumentException | IllegalStateException
                | NoSuchElementException e) {
            return e.getClass().getSimpleName();
        }
    }

    void end() {
        System.out.println(wrong == 0 ? "all answers are as due" : wrong + " answers are not as due");
        if (wrong != 0) {
            System.exit(1);
        }
    }

    static long packed(String part) {
        long w = 0;
        for (int k = 0; k < part.length(); k++) {
            w |= (long) part.charAt(k) << (8 * k);
        }
        return w;
    }

    static int typeAll(PeptideSearch x, String text) {
        int length = 0;
        for (int at = 0; at < text.length(); at += 8) {
            String part = text.substring(at, Math.min(text.length(), at + 8));
            length = x.type(packed(part), part.length());
        }
        return length;
    }

    static int proteins(PeptideSearch x, String text) {
        typeAll(x, text);
        return x.read(0);
    }

    static int spectra(PeptideSearch x, String text) {
        typeAll(x, text);
        return x.read(1);
    }

    /** A spectrum's text: its mass and charge, then its peaks. */
    static String spectrum(String pepmass, int charge, String... peaks) {
        StringBuilder text = new StringBuilder("BEGIN IONS\nPEPMASS=" + pepmass + "\nCHARGE=" + charge + "+\n");
        for (String peak : peaks) {
            text.append(peak).append('\n');
        }
        return text.append("END IONS\n").toString();
    }

    static String repeated(String part, int times) {
        return part.repeat(times);
    }

    /** A to E weigh 10, 20, 30, 40, 50; K weighs 60 and cuts; P weighs 70 and stops; water 18, a proton 1. */
    static PeptideSearch withLetters() {
        PeptideSearch x = new PeptideSearch();
        for (int k = 0; k < 5; k++) {
            x.letter(k, 10000000 * (k + 1), false, false);
        }
        x.letter('K' - 'A', 60000000, true, false);
        x.letter('P' - 'A', 70000000, false, true);
        return x;
    }
}
