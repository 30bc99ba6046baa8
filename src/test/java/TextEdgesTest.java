import java.util.function.Supplier;

/** Promises 36 to 42, one method a promise: every boundary that the document names. */
public final class TextEdgesTest {
    private static final Class<IndexOutOfBoundsException> INDEX = IndexOutOfBoundsException.class;
    private static final Class<IllegalArgumentException> ARGUMENT = IllegalArgumentException.class;
    private static final Class<IllegalStateException> STATE = IllegalStateException.class;
    private static final int LEAST = Integer.MIN_VALUE;
    private static final int GREATEST = Integer.MAX_VALUE;
    /** Lengths of a text: empty, one character, one before full, full. */
    private static final int[] LENGTHS = {0, 1, 79, 80};

    public static void main(String[] args) {
        Check.run(36, TextEdgesTest::promise36Codes);
        Check.run(36, TextEdgesTest::promise36BitsAboveTheEnd);
        Check.run(36, TextEdgesTest::promise36Numbers);
        Check.run(36, TextEdgesTest::promise36Row);
        Check.run(36, TextEdgesTest::promise36OrderOfThrows);
        Check.run(37, TextEdgesTest::promises37And38);
        Check.run(39, TextEdgesTest::promise39EachCharacter);
        Check.run(39, TextEdgesTest::promise39Incomplete);
        Check.run(39, TextEdgesTest::promise39LongTexts);
        Check.run(40, TextEdgesTest::promise40);
        Check.run(41, TextEdgesTest::promise41Errors);
        Check.run(41, TextEdgesTest::promise41Numbers);
        Check.run(41, TextEdgesTest::promise41LeftOutDates);
        Check.run(42, TextEdgesTest::promise42Parameters);
        Check.run(42, TextEdgesTest::promise42ReplacesTheText);
        Check.run(42, TextEdgesTest::promise42Lengths);
        Check.covered(36, 42);
        Check.end("TextEdgesTest");
    }

    private static void appended(String before, String characters) {
        TwoTownAlmanac x = Make.withText(before);
        Check.due(36, "appendText of " + characters + " to " + before, x.appendText(Make.packed(characters)),
                before.length() + characters.length());
        Check.same(36, "the text", Check.textOf(x), before + characters);
    }

    private static void notAppended(String told, long number) {
        Check.refused(36, "appendText of " + told, ARGUMENT, Make::busy, x -> x.appendText(number));
    }

    /** From one to eight characters, and at each place the least and the greatest code, and codes outside. */
    private static void promise36Codes() {
        for (int count = 1; count <= 8; count++) {
            String plain = "ABCDEFGH".substring(0, count);
            for (int place = 0; place < count; place++) {
                for (int code : new int[] {33, 126}) {
                    appended("", plain.substring(0, place) + (char) code + plain.substring(place + 1));
                    appended("B1.1", plain.substring(0, place) + (char) code + plain.substring(place + 1));
                }
                for (int code : new int[] {1, 31, 32, 127, 128, 161, 254, 255}) {
                    notAppended(plain + " with code " + code + " at " + place,
                            Make.packed(plain.substring(0, place) + (char) code + plain.substring(place + 1)));
                }
            }
        }
    }

    private static void promise36BitsAboveTheEnd() {
        for (int count = 1; count <= 7; count++) {
            long characters = Make.packed("ABCDEFGH".substring(0, count));
            for (int bit = 8 * count + 8; bit < 64; bit++) {
                notAppended(count + " characters, a 0 and bit " + bit, characters | 1L << bit);
            }
        }
        for (int bit = 8; bit < 64; bit++) {
            notAppended("no character and bit " + bit, 1L << bit);
        }
        // of the group right above the characters, bit 6 alone is a character: @
        for (int bit = 0; bit < 8; bit++) {
            if (bit != 6) {
                notAppended("A and bit " + (8 + bit), 'A' | 1L << 8 + bit);
            }
        }
        appended("", "@A");
    }

    private static void promise36Numbers() {
        notAppended("no character", 0);
        notAppended("the greatest long", Long.MAX_VALUE);
        notAppended("the least long", Long.MIN_VALUE);
        notAppended("-1", -1);
        notAppended("the greatest int", GREATEST);
        notAppended("the least int", LEAST);
        appended("", "!");
        appended("", "~");
        appended("", "!!!!!!!!");
        appended("", "~~~~~~~~");
    }

    private static void promise36Row() {
        for (int count = 1; count <= 8; count++) {
            String characters = "ABCDEFGH".substring(0, count);
            appended("", characters);
            appended("1".repeat(80 - count), characters);
            if (count < 8) {
                appended("1".repeat(80 - count - 1), characters);
            }
            for (int length = 81 - count; length <= 80; length++) {
                String before = "1".repeat(length);
                Check.refused(36, "appendText of " + count + " characters to " + length, STATE,
                        () -> Make.busyWithText(before), x -> x.appendText(Make.packed(characters)));
            }
        }
    }

    private static void promise36OrderOfThrows() {
        long[] numbers = {0, 32, 127, 255, -1, Long.MIN_VALUE, Long.MAX_VALUE, 65L << 8, 1L << 63 | 65,
            Make.packed("ABCDEFG") << 8, Make.packed("ABC DEFG")};
        for (int length : new int[] {73, 79, 80}) {
            for (long number : numbers) {
                Check.refused(36, "appendText(" + number + ") to " + length, ARGUMENT,
                        () -> Make.busyWithText("A".repeat(length)), x -> x.appendText(number));
            }
        }
    }

    private static void promises37And38() {
        for (int length : LENGTHS) {
            TwoTownAlmanac x = Make.busyWithText("A".repeat(length));
            String state = Check.stateOf(x);
            int undos = x.undoCount();
            Check.due(38, "textLength() of " + length, x.textLength(), length);
            Check.due(37, "clearText() of " + length, x.clearText(), length);
            Check.due(38, "textLength() after clearText()", x.textLength(), 0);
            Check.due(37, "clearText() of an empty text", x.clearText(), 0);
            Check.due(37, "textError() after clearText()", x.textError(), 0);
            Check.due(37, "undoCount() after clearText()", x.undoCount(), undos);
            Check.same(37, "the state after clearText()", Check.stateOf(x), state);
            Check.due(36, "appendText after clearText()", x.appendText(Make.packed("B2.3.4")), 6);
            Check.same(36, "the text after clearText()", Check.textOf(x), "B2.3.4");
        }
        TwoTownAlmanac x = new TwoTownAlmanac();
        for (int length = 1; length <= 80; length++) {
            x.appendText('9');
            Check.due(38, "textLength()", x.textLength(), length);
        }
    }

    /** After each beginning of a date, each code: those that can follow, and all others. */
    private static void promise39EachCharacter() {
        String[][] beginningsAndNext = {{"", "AB"}, {"A", "123456789"}, {"B", "123456789"}, {"A1", ".0123456789"},
            {"B9", ".0123456789"}, {"A10", "."}, {"A99", "."}, {"A1.", "123456789"}, {"B99.", "123456789"},
            {"A1.1", ".0123456789"}, {"B99.9", ".0123456789"}, {"A1.10", "."}, {"B99.99", "."},
            {"A1.1.", "123456789"}, {"B99.99.", "123456789"}, {"A1.1.1", "0123456789"}, {"B99.99.9", "0123456789"},
            {"A1.1.10", "0123456789"}, {"B99.99.99", "0123456789"}, {"A1.1.100", ""}, {"B99.99.999", ""}};
        for (String[] pair : beginningsAndNext) {
            String beginning = pair[0];
            for (char code = 33; code <= 126; code++) {
                boolean follows = pair[1].indexOf(code) >= 0;
                boolean inYear = beginning.length() > 3 && beginning.indexOf('.') < beginning.lastIndexOf('.');
                int want = !follows ? beginning.length() : inYear ? -1 : beginning.length() + 1;
                errorIs(beginning + code, want);
                if (!follows) {
                    errorIs(beginning + code + "1.1.1", want);
                }
            }
        }
    }

    private static void errorIs(String text, int want) {
        Check.due(39, "textError() of " + text, Make.withText(text).textError(), want);
    }

    private static void promise39Incomplete() {
        String[] incomplete = {"", "A", "B", "A1", "A12", "A1.", "A12.", "A1.1", "A1.12", "A12.12", "A1.1.", "A12.12."};
        for (String text : incomplete) {
            errorIs(text, text.length());
        }
        String[] correct = {"A1.1.1", "B1.1.1", "A99.1.1", "A1.99.1", "A1.1.999", "A1.1.99", "B99.99.999", "A10.10.10"};
        for (String text : correct) {
            errorIs(text, -1);
        }
    }

    private static void promise39LongTexts() {
        errorIs("A99.99.999" + "1".repeat(69), 10);
        errorIs("A99.99.999" + "1".repeat(70), 10);
        errorIs("A1.1.1." + "1".repeat(73), 6);
        errorIs("1".repeat(80), 0);
        errorIs("A".repeat(80), 1);
        errorIs("B9" + "9".repeat(78), 3);
        // the first of several errors
        errorIs("A0.0.0", 1);
        errorIs("A1.0.0", 3);
        errorIs("A1.1.0", 5);
        errorIs("C0.0.0", 0);
    }

    private static void promise40() {
        for (int length : LENGTHS) {
            String text = "!" + "5".repeat(78) + "~";
            String part = text.substring(0, length);
            Edge edge = new Edge(40, "textCharacter(?) of " + length, () -> Make.busyWithText(part),
                    TwoTownAlmanac::textCharacter);
            if (length > 0) {
                edge.least(0, '!').greatest(length - 1, part.charAt(length - 1));
            }
            edge.outside(INDEX);
        }
        // characters that were there before are no longer there
        Supplier<TwoTownAlmanac> shorter = () -> {
            TwoTownAlmanac x = Make.busyWithText("A".repeat(80));
            x.writeDate(1, 0);
            return x;
        };
        new Edge(40, "textCharacter(?) after writeDate", shorter, TwoTownAlmanac::textCharacter)
                .least(0, 'B').greatest(5, '1').outside(INDEX);
        Supplier<TwoTownAlmanac> cleared = () -> {
            TwoTownAlmanac x = Make.busyWithText("A".repeat(80));
            x.clearText();
            return x;
        };
        new Edge(40, "textCharacter(?) after clearText", cleared, TwoTownAlmanac::textCharacter).outside(INDEX);
    }

    private static void promise41Errors() {
        String[] texts = {"", "A", "B", "A1", "A12.", "A1.1", "A1.1.", "C1.1.1", "A0.1.1", "A1.0.1", "A1.1.0",
            "A01.1.1", "A100.1.1", "A1.100.1", "A1.1.1000", "A1.1.1.", "A1.1.1A", "A".repeat(79), "A".repeat(80),
            "A1.1.999" + "9".repeat(72)};
        for (String text : texts) {
            Check.refused(41, "dayOfText() of " + text, STATE, () -> Make.busyWithText(text),
                    TwoTownAlmanac::dayOfText);
        }
    }

    private static void dayIs(TwoTownAlmanac x, String text, int want) {
        x.clearText();
        Make.append(x, text);
        Check.due(41, "dayOfText() of " + text, x.dayOfText(), want);
    }

    private static void promise41Numbers() {
        TwoTownAlmanac x = new TwoTownAlmanac();
        // the least and the greatest day of the month, and those next to the months' ends
        dayIs(x, "A1.1.1", 0);
        dayIs(x, "A30.1.1", 29);
        dayIs(x, "A31.1.1", -1);
        dayIs(x, "A32.1.1", -1);
        dayIs(x, "A99.1.1", -1);
        dayIs(x, "A31.2.1", 60);
        dayIs(x, "A32.2.1", -1);
        dayIs(x, "A99.2.1", -1);
        dayIs(x, "B28.1.1", 27);
        dayIs(x, "B29.1.1", -1);
        dayIs(x, "B99.1.1", -1);
        // the least and the greatest month, and those next to the year's end
        dayIs(x, "A1.12.1", 335);
        dayIs(x, "A1.13.1", -1);
        dayIs(x, "A1.99.1", -1);
        dayIs(x, "B1.12.1", 308);
        dayIs(x, "B1.13.1", -1);
        dayIs(x, "B1.99.1", -1);
        dayIs(x, "B1.1.1", 0);
        // the least and the greatest year, and those next to year 60 and to day 20000
        dayIs(x, "A1.1.2", 366);
        dayIs(x, "B1.1.2", 336);
        dayIs(x, "A31.12.60", 60 * 366 - 1);
        dayIs(x, "A1.1.61", 60 * 366);
        dayIs(x, "B28.12.60", 60 * 336 - 1);
        dayIs(x, "B1.1.61", 60 * 336);
        dayIs(x, "B9.7.60", 20000);
        dayIs(x, "B10.7.60", 20001);
        dayIs(x, "A1.1.99", 98 * 366);
        dayIs(x, "A1.1.100", 99 * 366);
        dayIs(x, "A31.12.999", 999 * 366 - 1);
        dayIs(x, "B28.12.999", 999 * 336 - 1);
        dayIs(x, "B29.12.999", -1);
        dayIs(x, "A31.11.999", -1);
        dayIs(x, "A99.99.999", -1);
        dayIs(x, "B99.99.999", -1);
        Check.due(41, "undoCount()", x.undoCount(), 0);
    }

    private static void promise41LeftOutDates() {
        TwoTownAlmanac x = Make.withGaps(0, 5, 10, 9998, 40, 9999, 40);
        dayIs(x, "A6.1.1", 5);
        dayIs(x, "A7.1.1", -1);
        dayIs(x, "A16.1.1", -1);
        dayIs(x, "A17.1.1", 6);
        dayIs(x, "B7.1.1", 6);
        dayIs(x, "A31.12.999", 999 * 366 - 1 - 90);
        dayIs(x, "B28.12.999", 999 * 336 - 1);
        // day 10000 has the calendar's day 10090 = 27 * 366 + 6 * 30 + 3 + 25
        dayIs(x, "A26.7.28", 10000);
        dayIs(x, "A25.7.28", -1);
    }

    private static void promise42Parameters() {
        new Edge(42, "writeDate(?, 340)", Make::busy, (x, town) -> x.writeDate(town, 340))
                .least(0, 7).greatest(1, 7).outside(INDEX);
        // 27.8.55 and 18.7.60
        new Edge(42, "writeDate(0, ?)", Make::busy, (x, day) -> x.writeDate(0, day))
                .least(0, 6).greatest(20000, 8).outside(ARGUMENT);
        new Edge(42, "writeDate(1, ?)", Make::busy, (x, day) -> x.writeDate(1, day))
                .least(0, 6).greatest(20000, 8).outside(ARGUMENT);
        for (int town : new int[] {-1, 2, LEAST, GREATEST}) {
            for (int day : new int[] {-1, 20001, LEAST, GREATEST}) {
                Check.refused(42, "writeDate(" + town + ", " + day + ")", INDEX, Make::busy,
                        x -> x.writeDate(town, day));
            }
        }
    }

    private static void promise42ReplacesTheText() {
        for (int length : LENGTHS) {
            TwoTownAlmanac x = Make.busyWithText("9".repeat(length));
            String state = Check.stateOf(x);
            int undos = x.undoCount();
            Check.due(42, "writeDate(1, 20000) over " + length, x.writeDate(1, 20000), 8);
            Check.same(42, "the text", Check.textOf(x), "B18.7.60");
            Check.due(42, "writeDate(0, 0)", x.writeDate(0, 0), 6);
            Check.same(42, "the text", Check.textOf(x), "A1.1.1");
            Check.due(42, "textLength()", x.textLength(), 6);
            Check.due(42, "undoCount()", x.undoCount(), undos);
            Check.same(42, "the state", Check.stateOf(x), state);
            Check.due(42, "appendText behind it", x.appendText('2'), 7);
            Check.same(42, "the text", Check.textOf(x), "A1.1.12");
        }
    }

    /** Numbers of one digit and of two, next to each other: 9 and 10. */
    private static void promise42Lengths() {
        TwoTownAlmanac x = new TwoTownAlmanac();
        written(x, 0, 8, "A9.1.1");
        written(x, 0, 9, "A10.1.1");
        written(x, 0, 8 * 30 + 4, "A1.9.1");
        written(x, 0, 9 * 30 + 4, "A1.10.1");
        written(x, 1, 9 * 336 - 1, "B28.12.9");
        written(x, 1, 9 * 336, "B1.1.10");
        written(x, 1, 59 * 336 - 1, "B28.12.59");
        written(x, 1, 59 * 336, "B1.1.60");
        written(x, 0, 54 * 366 - 1, "A31.12.54");
        written(x, 0, 29, "A30.1.1");
        written(x, 0, 30, "A1.2.1");
        TwoTownAlmanac gaps = Make.withGaps(1, 0, 40);
        written(gaps, 1, 0, "B1.1.1");
        written(gaps, 1, 1, "B14.2.1");
        written(gaps, 0, 1, "A2.1.1");
    }

    private static void written(TwoTownAlmanac x, int town, int day, String want) {
        String call = "writeDate(" + town + ", " + day + ")";
        Check.due(42, call, x.writeDate(town, day), want.length());
        Check.same(42, "the text after " + call, Check.textOf(x), want);
        Check.due(41, "dayOfText() after " + call, x.dayOfText(), day);
    }
}
