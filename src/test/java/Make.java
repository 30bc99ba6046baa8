/** Almanacs for the tests. */
final class Make {
    private Make() {
    }

    /**
     * An almanac in which all is in use, so that a refused call that changes anything is noticed: counts,
     * six recorded states that differ, two saved ones, a text. Today is day 8.
     */
    static TwoTownAlmanac busy() {
        return busy(2, 2, 4);
    }

    /** Gaps of town 0 after days 100, 150, 200; of town 1 after 110, 160, 210; feasts on days 1 to 5. */
    static TwoTownAlmanac busy(int gapsOfA, int gapsOfB, int feasts) {
        TwoTownAlmanac x = new TwoTownAlmanac();
        for (int i = 0; i < gapsOfA; i++) {
            x.addGap(0, 100 + 50 * i, 1 + i);
        }
        for (int i = 0; i < gapsOfB; i++) {
            x.addGap(1, 110 + 50 * i, 4 + i);
        }
        for (int i = 0; i < feasts; i++) {
            x.addFeast(i % 2, 1, 2 + i / 2);
        }
        if (feasts > 1) {
            x.barWeekday(1, 5);
        }
        use(x);
        return x;
    }

    private static void use(TwoTownAlmanac x) {
        x.saveState(0);
        x.passDays(3);
        x.saveState(1);
        x.setShift(3);
        x.setCopiesPerDay(5);
        x.passDays(4);
        x.setShift(6);
        x.passDays(1);
        x.setShift(4);
        append(x, "B1.1");
    }

    static TwoTownAlmanac withGaps(int town, int... daysAndLengths) {
        TwoTownAlmanac x = new TwoTownAlmanac();
        for (int i = 0; i < daysAndLengths.length; i += 2) {
            x.addGap(town, daysAndLengths[i], daysAndLengths[i + 1]);
        }
        return x;
    }

    static TwoTownAlmanac withFeast(int town, int month, int dayOfMonth) {
        TwoTownAlmanac x = new TwoTownAlmanac();
        x.addFeast(town, month, dayOfMonth);
        return x;
    }

    /** 1.1. in town 0 and 21.11. in town 1 meet on day 3660 alone: 10 * 366 = 10 * 336 + 300. */
    static TwoTownAlmanac meetingOn3660(int today) {
        TwoTownAlmanac x = withFeast(0, 1, 1);
        x.addFeast(1, 11, 21);
        return passTo(x, today);
    }

    /** Lets days pass up to a day; the end does not hang on the answers of a class that may be wrong. */
    static TwoTownAlmanac passTo(TwoTownAlmanac x, int day) {
        int step;
        for (int today = x.today(); today < day; today += step) {
            step = Math.min(400, day - today);
            x.passDays(step);
        }
        return x;
    }

    /** The characters in one number, as appendText takes them. */
    static long packed(String characters) {
        long number = 0;
        for (int i = 0; i < characters.length(); i++) {
            number = number << 8 | characters.charAt(i);
        }
        return number;
    }

    static TwoTownAlmanac append(TwoTownAlmanac x, String text) {
        for (int i = 0; i < text.length(); i += 8) {
            x.appendText(packed(text.substring(i, Math.min(text.length(), i + 8))));
        }
        return x;
    }

    static TwoTownAlmanac withText(String text) {
        return append(new TwoTownAlmanac(), text);
    }

    /** A busy almanac with another text. */
    static TwoTownAlmanac busyWithText(String text) {
        TwoTownAlmanac x = busy();
        x.clearText();
        return append(x, text);
    }
}
