/** Promises 36 to 42: the text, by examples; TextEdgesTest has the boundaries. */
public final class TextTest {
    private static final Class<IllegalStateException> STATE = IllegalStateException.class;

    public static void main(String[] args) {
        charactersAreAppended();
        textIsCleared();
        errorsAreFound();
        datesAreRead();
        datesOfGapsAreRead();
        datesAreWritten();
        textIsNoPartOfHistory();
        Check.end("TextTest");
    }

    private static void charactersAreAppended() {
        TwoTownAlmanac x = new TwoTownAlmanac();
        Check.due(36, "appendText of 8", x.appendText(Make.packed("!bcdefg~")), 8);
        Check.due(36, "appendText of 1", x.appendText(Make.packed("B")), 9);
        Check.due(36, "appendText of 3", x.appendText(Make.packed("1.2")), 12);
        Check.same(40, "the text", Check.textOf(x), "!bcdefg~B1.2");
        Check.due(38, "textLength()", x.textLength(), 12);
        Check.due(40, "textCharacter(0)", x.textCharacter(0), 33);
        Check.due(40, "textCharacter(7)", x.textCharacter(7), 126);
        Check.due(40, "textCharacter(11)", x.textCharacter(11), '2');
        Check.due(36, "undoCount()", x.undoCount(), 0);
    }

    private static void textIsCleared() {
        TwoTownAlmanac x = Make.withText("A1.1.1");
        Check.due(37, "clearText()", x.clearText(), 6);
        Check.due(38, "textLength()", x.textLength(), 0);
        Check.due(37, "clearText()", x.clearText(), 0);
        Check.due(36, "appendText after clearText", x.appendText(Make.packed("B2")), 2);
        Check.same(40, "the text", Check.textOf(x), "B2");
        Check.due(37, "clearText() of 80", Make.withText("A".repeat(80)).clearText(), 80);
        Check.due(37, "undoCount()", x.undoCount(), 0);
    }

    private static void error(String text, int want) {
        Check.due(39, "textError() of " + text, Make.withText(text).textError(), want);
        if (want != -1) {
            Check.refused(41, "dayOfText() of " + text, STATE, () -> Make.withText(text), TwoTownAlmanac::dayOfText);
        }
    }

    private static void errorsAreFound() {
        String[] good = {"A1.1.1", "B1.1.1", "A99.99.999", "B10.10.10", "A9.9.9", "A10.2.100", "A31.2.1", "B9.12.99"};
        for (String text : good) {
            error(text, -1);
            // the year may go on with a second and a third digit, so some prefixes are correct too
            for (int end = 0; end <= text.lastIndexOf('.') + 1; end++) {
                error(text.substring(0, end), end);
            }
        }
        error("C", 0);
        error("a1.1.1", 0);
        error("1.1.1", 0);
        error("CC", 0);
        error("AA", 1);
        error("A.", 1);
        error("A0", 1);
        error("A0.1.1", 1);
        error("A/", 1);
        error("A:", 1);
        error("A1B", 2);
        error("A1/1", 2);
        error("A1:1", 2);
        error("A123", 3);
        error("A100.1.1", 3);
        error("A1..1", 3);
        error("A1.0", 3);
        error("A1.01.1", 3);
        error("A1.1A", 4);
        error("A1.123", 5);
        error("A1.1..", 5);
        error("A1.1.0", 5);
        error("A1.1.01", 5);
        error("A1.1.1.", 6);
        error("A1.1.1A", 6);
        error("A1.1.12.", 7);
        error("A1.1.1000", 8);
        error("A99.99.9999", 10);
        error("A1.1.1!A1.1.1", 6);
        error("A1.1.999" + "9".repeat(72), 8);
        error("A10.10.100", -1);
        error("A20.20.200", -1);
    }

    private static void read(TwoTownAlmanac x, String text, int want) {
        x.clearText();
        Make.append(x, text);
        Check.due(41, "dayOfText() of " + text, x.dayOfText(), want);
        Check.same(41, "the text after dayOfText()", Check.textOf(x), text);
    }

    private static void datesAreRead() {
        TwoTownAlmanac x = new TwoTownAlmanac();
        read(x, "A1.1.1", 0);
        read(x, "B1.1.1", 0);
        read(x, "A31.2.1", 60);
        read(x, "B31.2.1", -1);
        read(x, "A31.1.1", -1);
        read(x, "A30.1.1", 29);
        read(x, "A32.2.1", -1);
        read(x, "B28.12.1", 335);
        read(x, "B29.12.1", -1);
        read(x, "A1.12.1", 335);
        read(x, "A1.13.1", -1);
        read(x, "A1.99.1", -1);
        read(x, "A99.1.1", -1);
        read(x, "A99.99.999", -1);
        read(x, "A31.12.999", 999 * 366 - 1);
        read(x, "B28.12.999", 999 * 336 - 1);
        read(x, "B11.10.61", 60 * 336 + 9 * 28 + 10);
        read(x, "A1.1.100", 99 * 366);
    }

    private static void datesOfGapsAreRead() {
        TwoTownAlmanac x = new TwoTownAlmanac();
        x.addGap(1, 5, 10);
        read(x, "B6.1.1", 5);
        read(x, "B7.1.1", -1);
        read(x, "B16.1.1", -1);
        read(x, "B17.1.1", 6);
        read(x, "A7.1.1", 6);
        read(x, "B1.1.999", 998 * 336 - 10);
    }

    private static void written(TwoTownAlmanac x, int town, int day, String want) {
        String call = "writeDate(" + town + ", " + day + ")";
        Check.due(42, call, x.writeDate(town, day), want.length());
        Check.same(42, "the text after " + call, Check.textOf(x), want);
        Check.due(42, "textError() after " + call, x.textError(), -1);
        Check.due(42, "dayOfText() after " + call, x.dayOfText(), day);
    }

    private static void datesAreWritten() {
        TwoTownAlmanac x = Make.withText("A".repeat(80));
        written(x, 0, 0, "A1.1.1");
        written(x, 1, 0, "B1.1.1");
        written(x, 0, 60, "A31.2.1");
        written(x, 0, 365, "A31.12.1");
        written(x, 1, 9 * 336 + 9 * 28 + 9, "B10.10.10");
        written(x, 0, 20000, "A24.8.55");
        written(x, 1, 20000, "B9.7.60");
        x.addGap(1, 5, 10);
        written(x, 1, 6, "B17.1.1");
        written(x, 0, 6, "A7.1.1");
        int undos = x.undoCount();
        x.writeDate(0, 3);
        Check.due(42, "undoCount()", x.undoCount(), undos);
    }

    private static void textIsNoPartOfHistory() {
        TwoTownAlmanac x = Make.withText("A1");
        x.saveState(0);
        x.setShift(3);
        Make.append(x, ".2");
        x.undo();
        Check.same(43, "the text after undo", Check.textOf(x), "A1.2");
        x.loadState(0);
        Check.same(46, "the text after loadState", Check.textOf(x), "A1.2");
        x.writeDate(1, 0);
        x.undo();
        Check.same(43, "the text after writeDate and undo", Check.textOf(x), "B1.1.1");
    }
}
