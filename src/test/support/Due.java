/** Compares answers with those that are due, and ends the test with 1 if one was another. */
public final class Due {
    private static int wrong = 0;
    private static int asked = 0;
    private static String heading = "";
    private static final Document DOCUMENT = Document.open();

    private Due() {
    }

    /** What follows is asked by these words of a section of the document, and is told with them if it is wrong. */
    public static void sentence(String section, String words) {
        heading = "";
        if (DOCUMENT != null) {
            is(section + " of the document has the words \"" + words + "\"", DOCUMENT.quote(section, words) ? 1 : 0, 1);
        }
        heading = section + ", \"" + words + "\": ";
    }

    /** Each word of the section has been quoted by a test. */
    public static void noSentenceLeft(String section) {
        heading = "";
        if (DOCUMENT != null) {
            String rest = DOCUMENT.rest(section);
            is(section + ": no test quotes \"" + rest + "\", its length", rest.length(), 0);
        }
    }

    public static void is(String call, long got, long want) {
        asked++;
        if (got != want) {
            wrong++;
            if (wrong <= 50) {
                System.out.println(heading + call + " answered " + got + ", due is " + want);
            }
        }
    }

    public static void nothing(String call, long got) {
        is(call, got, Long.MIN_VALUE);
    }

    public static void cell(GlulxHeads x, int at, int want) {
        is("cell(" + at + ")", cellOr(x, at, Integer.MIN_VALUE), want);
    }

    public static void noCell(GlulxHeads x, int at) {
        is("cell(" + at + ") throws", cellOr(x, at, Integer.MIN_VALUE), Integer.MIN_VALUE);
    }

    /** The answer, or the stand-in if the very exception of the document came (and not one of its children). */
    public static int cellOr(GlulxHeads x, int at, int standIn) {
        try {
            return x.cell(at);
        } catch (IndexOutOfBoundsException e) {
            if (e.getClass() != IndexOutOfBoundsException.class) {
                is("cell(" + at + ") threw " + e.getClass().getName(), 1, 0);
            }
            return standIn;
        }
    }

    public static void end() {
        System.out.println(asked + " answers asked, " + wrong + " not as due");
        if (wrong != 0 || asked == 0) {
            System.exit(1);
        }
    }
}
