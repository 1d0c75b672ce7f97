/** What a booking may be, and who is barred. */
final class MayBeSentences {
    private static final int DAY = Scenes.DAY;
    private static final int FIVE = 1;
    private static final int BARRED = 2;
    private static final int FREE = 3;

    private MayBeSentences() {
    }

    static void say(Sentences s) {
        s.say("WHAT A BOOKING MAY BE is asked in this order, for a person, a thing, from and to:",
                MayBeSentences::orderInBook, MayBeSentences::orderInEdit,
                MayBeSentences::orderInWish);
        s.say("-1 from is not below to, or one can't be;", MayBeSentences::times);
        s.say("-2 it has fewer minutes than the least, or more than the most;",
                MayBeSentences::minutes, MayBeSentences::leastIsMost);
        s.say("-3 it begins before NOW, or further AHEAD than the rule says;",
                MayBeSentences::beginning, MayBeSentences::noMinuteAhead,
                MayBeSentences::furthestAhead);
        s.say("-4 it does not lie in the HOURS of one day, that is no HOLIDAY;",
                MayBeSentences::inHours, MayBeSentences::overMidnight,
                MayBeSentences::onHolidays);
        s.say("-5 the person is BARRED, or has 5 bookings that live, EQUIPMENT among them"
                + " (not asked in an edit);", MayBeSentences::fiveLive,
                MayBeSentences::equipmentIsAmongThem, MayBeSentences::onlyWhatLivesCounts,
                MayBeSentences::barredMayNotBook, MayBeSentences::notAskedInAnEdit);
        s.say("-6 it would clash (in an edit: with another one than itself).",
                MayBeSentences::clash, MayBeSentences::clashInEdit);
        s.say("A person that has had 3 NO-SHOWS, or each 3 more, is BARRED until 10080 minutes"
                + " behind the time at which that was seen.", MayBeSentences::barredByThree,
                MayBeSentences::barredUntil, MayBeSentences::barredByEachThreeMore,
                MayBeSentences::barredByThreeOfSeveral, MayBeSentences::barredLonger,
                MayBeSentences::notBarredLongerByOneMore);
    }

    /**
     * Thing 0 may be 30 to 100 minutes, at most 3000 ahead; NOW is 1000. It is booked, by others:
     * from 980 (begun), 1540 (outside the hours), 1940, 3380 (on a holiday), 4820 (too far ahead).
     * The hours are 480 to 1200 on days 0, 1 and 3; day 2 is a holiday. Person FREE has booking
     * 15 of thing 0, from 2540.
     */
    private static Calls everyReason() {
        Calls x = new Calls();
        x.thing(0, 30, 100, 3000, 0);
        x.thing(0, 1, 1440, 100000, 120);
        x.thing(0, 10, 100, 100000, 0);
        for (int weekday = 0; weekday < 7; weekday++) {
            x.hours(0, weekday, 0, 1440);
        }
        for (int i = 0; i < 3; i++) {
            x.book(BARRED, 2, 10 + i * 10, 20 + i * 10);
        }
        x.tick(41);
        x.book(4, 0, 980, 1080);
        x.book(4, 0, 1540, 1640);
        x.book(4, 0, 1940, 2040);
        x.tick(970);
        x.checkIn(4, 4);
        x.tick(1000);
        x.book(4, 0, 3380, 3480);
        x.book(5, 1, 4820, 4920);
        x.equip(8, 0);
        for (int i = 0; i < 5; i++) {
            x.book(FIVE, 1, 2000 + i * 10, 2010 + i * 10);
        }
        x.hours(0, 0, 480, 1200);
        x.hours(0, 1, 480, 1200);
        x.hours(0, 3, 480, 1200);
        x.holiday(2);
        x.book(FREE, 0, 2540, 2600);
        return x;
    }

    /** A person, from, to, what is due; each but the last may not be for two reasons or more. */
    private static final int[][] REASONS = {
        // -1 and -2
        {FREE, 2100, 2100, -1}, {FREE, 2100, 2099, -1}, {FREE, 2200, 2100, -1},
        // -1 and -3
        {FREE, -40, 20, -1}, {FREE, 900, 900, -1}, {FREE, 999950, 1000001, -1},
        {FREE, Scenes.LOWEST, Scenes.LOWEST + 50, -1},
        {FREE, Scenes.HIGHEST - 50, Scenes.HIGHEST, -1},
        // -1, whose minutes would be 50 by a wrap-around
        {FREE, Scenes.HIGHEST - 9, Scenes.LOWEST + 40, -1},
        // -1 and -4
        {FREE, 1500, 1500, -1}, {FREE, 3700, 3700, -1},
        // -1 and -5
        {FIVE, 2100, 2100, -1}, {BARRED, 2100, 2100, -1},
        // -1 and -6
        {FREE, 1990, 1950, -1}, {FREE, 1950, 1950, -1},
        // -2 and -3
        {FREE, 900, 929, -2}, {FREE, 800, 901, -2}, {FREE, 4500, 4529, -2},
        {FREE, 4500, 4601, -2},
        // -2 and -4
        {FREE, 1450, 1479, -2}, {FREE, 1700, 1801, -2}, {FREE, 3580, 3590, -2},
        // -2 and -5
        {FIVE, 2100, 2129, -2}, {FIVE, 2100, 2201, -2}, {BARRED, 2100, 2129, -2},
        // -2 and -6
        {FREE, 1950, 1979, -2}, {FREE, 1950, 2051, -2},
        // -3 and -4
        {FREE, 400, 440, -3}, {FREE, 4420, 4460, -3},
        // -3 and -5
        {FIVE, 900, 940, -3}, {FIVE, 5020, 5060, -3}, {BARRED, 900, 940, -3},
        {BARRED, 5020, 5060, -3},
        // -3 and -6
        {FREE, 990, 1040, -3}, {FREE, 4830, 4870, -3},
        // -4 and -5
        {FIVE, 1740, 1780, -4}, {FIVE, 3580, 3620, -4}, {BARRED, 1740, 1780, -4},
        {BARRED, 3580, 3620, -4},
        // -4 and -6
        {FREE, 1550, 1590, -4}, {FREE, 3390, 3430, -4},
        // -5 and -6
        {FIVE, 1950, 1990, -5}, {BARRED, 1950, 1990, -5},
        // -5 alone, -6 alone
        {FIVE, 2100, 2140, -5}, {BARRED, 2100, 2140, -5}, {FREE, 1950, 1990, -6},
    };

    private static void orderInBook(Due due) {
        for (int[] row : REASONS) {
            Untouched.by(due, "book for " + row[0] + " from " + row[1] + " to " + row[2], row[3],
                    everyReason(), x -> x.book(row[0], 0, row[1], row[2]));
        }
        due.is("no reason", 16, everyReason().book(FREE, 0, 2100, 2140));
    }

    private static void orderInEdit(Due due) {
        for (int[] row : REASONS) {
            if (row[0] == FREE) {
                Untouched.by(due, "edit from " + row[1] + " to " + row[2], row[3],
                        everyReason(), x -> x.edit(15, FREE, row[1], row[2]));
            }
        }
        due.is("no reason", 1, everyReason().edit(15, FREE, 2100, 2140));
    }

    private static void orderInWish(Due due) {
        for (int[] row : REASONS) {
            if (row[3] != -6) {
                Untouched.by(due, "wish of " + row[0] + " from " + row[1] + " to " + row[2], -1,
                        everyReason(), x -> x.wish(row[0], 0, row[1], row[2], 0));
            }
        }
        due.is("-6 alone", 1, everyReason().wish(FREE, 0, 1950, 1990, 0));
    }

    private static void times(Due due) {
        Calls x = new Calls();
        x.thing(0, 1, 1440, 100000, 0);
        x.hours(0, 0, 0, 1440);
        due.is("from is to", -1, x.book(0, 0, 100, 100));
        due.is("from a minute above to", -1, x.book(0, 0, 101, 100));
        due.is("from far above to", -1, x.book(0, 0, Scenes.HIGHEST, Scenes.LOWEST));
        due.is("both 0", -1, x.book(0, 0, 0, 0));
        due.is("from can't be", -1, x.book(0, 0, -1, 100));
        due.is("to can't be", -1, x.book(0, 0, 100, 1000001));
        due.is("neither can be", -1, x.book(0, 0, -1, 1000001));
        due.is("from a minute below to", 1, x.book(0, 0, 100, 101));
    }

    private static void minutes(Due due) {
        Calls x = new Calls();
        x.thing(0, 30, 100, 100000, 0);
        x.thing(0, 1, 1440, 100000, 0);
        x.hours(0, 0, 0, 1440);
        due.is("a minute", -2, x.book(0, 0, 200, 201));
        due.is("a minute too few", -2, x.book(0, 0, 200, 229));
        due.is("the least", 1, x.book(0, 0, 200, 230));
        due.is("the most", 2, x.book(0, 0, 300, 400));
        due.is("a minute too many", -2, x.book(0, 0, 400, 501));
        due.is("all times", -2, x.book(0, 0, 0, 1000000));
        due.is("one where it is the least", 3, x.book(0, 1, 200, 201));
        due.is("1440 where it is the most", 4, x.book(0, 1, 7 * DAY, 8 * DAY));
        due.is("1441 where it is the most", -2, x.book(0, 1, 7 * DAY, 8 * DAY + 1));
    }

    private static void leastIsMost(Due due) {
        Calls x = new Calls();
        x.thing(0, 60, 60, 100000, 0);
        x.hours(0, 0, 0, 1440);
        due.is("59", -2, x.book(0, 0, 100, 159));
        due.is("61", -2, x.book(0, 0, 100, 161));
        due.is("60", 1, x.book(0, 0, 100, 160));
    }

    private static void beginning(Due due) {
        Calls x = new Calls();
        x.thing(0, 10, 100, 500, 0);
        x.hours(0, 0, 0, 1440);
        due.is("a minute too far", -3, x.book(0, 0, 501, 520));
        due.is("as far as may be", 1, x.book(0, 0, 500, 520));
        x.tick(100);
        due.is("a minute before NOW", -3, x.book(0, 0, 99, 120));
        due.is("at 0", -3, x.book(0, 0, 0, 20));
        due.is("at NOW", 2, x.book(0, 0, 100, 120));
        due.is("a minute too far", -3, x.book(0, 0, 601, 620));
        due.is("as far as may be", 3, x.book(0, 0, 600, 620));
    }

    private static void noMinuteAhead(Due due) {
        Calls x = new Calls();
        x.thing(0, 10, 100, 0, 0);
        x.hours(0, 0, 0, 1440);
        x.tick(100);
        due.is("a minute before NOW", -3, x.book(0, 0, 99, 120));
        due.is("a minute behind NOW", -3, x.book(0, 0, 101, 120));
        due.is("at NOW", 1, x.book(0, 0, 100, 120));
    }

    private static void furthestAhead(Due due) {
        Calls x = Scenes.open();
        due.is("100001 ahead", -3, x.book(0, 0, 100001, 100020));
        due.is("100000 ahead", 1, x.book(0, 0, 100000, 100020));
        x.tick(900000);
        due.is("up to the last time", 2, x.book(0, 0, 999980, 1000000));
        due.is("before NOW", -3, x.book(0, 0, 899999, 900020));
    }

    private static void inHours(Due due) {
        Calls x = new Calls();
        x.thing(0, 1, 1440, 100000, 0);
        x.hours(0, 1, 480, 1200);
        due.is("a minute before the hours", -4, x.book(0, 0, DAY + 479, DAY + 481));
        due.is("all before them", -4, x.book(0, 0, DAY + 470, DAY + 480));
        due.is("a minute behind them", -4, x.book(0, 0, DAY + 1199, DAY + 1201));
        due.is("all behind them", -4, x.book(0, 0, DAY + 1200, DAY + 1210));
        due.is("around them", -4, x.book(0, 0, DAY + 479, DAY + 1201));
        due.is("on a day without hours", -4, x.book(0, 0, 480, 1200));
        due.is("their first minute", 1, x.book(0, 0, DAY + 480, DAY + 481));
        due.is("their last minute", 2, x.book(0, 0, DAY + 1199, DAY + 1200));
        due.is("the rest of them", 3, x.book(0, 0, DAY + 481, DAY + 1199));
        due.is("all of them, a week later", 4, x.book(0, 0, 8 * DAY + 480, 8 * DAY + 1200));
    }

    private static void overMidnight(Due due) {
        Calls x = Scenes.open();
        due.is("two days that are open", -4, x.book(0, 0, DAY - 10, DAY + 10));
        due.is("to midnight", 1, x.book(0, 0, DAY - 10, DAY));
        due.is("from midnight", 2, x.book(0, 0, DAY, DAY + 10));
        due.is("from one week to the next", -4, x.book(0, 0, 7 * DAY - 10, 7 * DAY + 10));
    }

    private static void onHolidays(Due due) {
        Calls x = Scenes.open();
        x.holiday(3);
        due.is("its first minutes", -4, x.book(0, 0, 3 * DAY, 3 * DAY + 10));
        due.is("its last minutes", -4, x.book(0, 0, 4 * DAY - 10, 4 * DAY));
        due.is("at another place", -4, x.book(0, 4, 3 * DAY, 3 * DAY + 10));
        due.is("the end of the day before", 1, x.book(0, 0, 3 * DAY - 10, 3 * DAY));
        due.is("the beginning of the day behind", 2, x.book(0, 0, 4 * DAY, 4 * DAY + 10));
        due.is("the same weekday", 3, x.book(0, 0, 10 * DAY, 10 * DAY + 10));
    }

    private static void fiveLive(Due due) {
        Calls x = Scenes.living(1, 4);
        due.is("a fifth", 5, x.book(1, 0, 100, 200));
        due.is("a sixth", -5, x.book(1, 1, 100, 200));
        due.is("another person's first", 6, x.book(2, 1, 100, 200));
        x.cancel(5, 1);
        due.is("a fifth again", 7, x.book(1, 0, 100, 200));
        due.is("a sixth", -5, x.book(1, 2, 100, 200));
    }

    private static void equipmentIsAmongThem(Due due) {
        Calls x = Scenes.living(1, 4);
        x.equip(1, 0);
        due.is("four and equipment", -5, x.book(1, 1, 100, 200));
        due.is("a wish", -1, x.wish(1, 3, 1000, 1010, 0));
        due.is("again", 0, x.recurring(1, 1, 1));
        x.cancel(5, 1);
        due.is("four", 6, x.book(1, 1, 100, 200));
    }

    private static void onlyWhatLivesCounts(Due due) {
        Calls x = Scenes.living(1, 5);
        x.tick(1000);
        x.checkIn(1, 1);
        due.is("one that is in counts", -5, x.book(1, 0, 1500, 1600));
        x.tick(1010);
        due.is("one that is done does not", 6, x.book(1, 0, 1500, 1600));
        due.is("five again", -5, x.book(1, 0, 1600, 1700));
        x.tick(1031);
        due.is("a no-show does not", 7, x.book(1, 0, 1600, 1700));
        due.is("five again", -5, x.book(1, 0, 1700, 1800));
        x.cancel(7, 1);
        due.is("a cancelled one does not", 8, x.book(1, 0, 1700, 1800));
        due.is("five again", -5, x.book(1, 0, 1800, 1900));
    }

    private static void barredMayNotBook(Due due) {
        Calls x = Scenes.barred(1);
        due.is("none of its own lives", 0, x.list(1, 0));
        due.is("barred", -5, x.book(1, 0, 200, 300));
        due.is("another person", 4, x.book(2, 0, 200, 300));
        due.is("a wish of the barred one", -1, x.wish(1, 0, 200, 300, 0));
        due.is("a wish of another one", 1, x.wish(3, 0, 200, 300, 0));
    }

    private static void notAskedInAnEdit(Due due) {
        Calls five = Scenes.living(1, 5);
        due.is("five live", 1, five.edit(1, 1, 100, 200));
        due.is("its from", 100, five.fromOf(1));
        five.equip(2, 0);
        due.is("six live", 1, five.edit(1, 1, 200, 300));
        Calls barred = Scenes.living(1, 5);
        barred.edit(5, 1, 5000, 5100);
        barred.tick(2000);
        due.is("barred", 1, barred.barred(1));
        due.is("edit of a barred one", 1, barred.edit(5, 1, 6000, 6100));
        due.is("its from", 6000, barred.fromOf(5));
    }

    private static void clash(Due due) {
        Untouched.by(due, "with another's", -6, Scenes.booked(), x -> x.book(2, 0, 199, 209));
        Untouched.by(due, "with an own one", -6, Scenes.booked(), x -> x.book(1, 0, 199, 209));
        Untouched.by(due, "with equipment", -6, Scenes.equipped(), x -> x.book(2, 1, 199, 209));
        due.is("behind it", 2, Scenes.booked().book(2, 0, 200, 210));
        due.is("behind equipment", 3, Scenes.equipped().book(2, 1, 200, 210));
    }

    private static void clashInEdit(Due due) {
        Calls x = Scenes.booked();
        x.book(2, 0, 200, 300);
        due.is("with itself alone, the same times", 1, x.edit(1, 1, 100, 200));
        due.is("with itself alone, other times", 1, x.edit(1, 1, 150, 190));
        due.is("up to the other one", 1, x.edit(1, 1, 150, 200));
        Untouched.by(due, "a minute of the other one", -6, x, y -> y.edit(1, 1, 150, 201));
        Untouched.by(due, "all of the other one", -6, x, y -> y.edit(1, 1, 200, 300));
        due.is("behind the other one", 1, x.edit(1, 1, 300, 400));
        due.is("what it left is free", 3, x.book(3, 0, 100, 200));
    }

    private static void barredByThree(Due due) {
        Calls x = Scenes.living(1, 3);
        x.tick(1031);
        due.is("two", 2, x.noShows(1));
        due.is("are too few", 0, x.barred(1));
        due.is("may book", 4, x.book(1, 0, 1100, 1200));
        x.tick(1040);
        due.is("the third is not seen yet", 0, x.barred(1));
        x.tick(1041);
        due.is("three", 3, x.noShows(1));
        due.is("are enough", 1, x.barred(1));
        due.is("may not book", -5, x.book(1, 0, 1200, 1300));
        due.is("another person is not barred", 0, x.barred(2));
    }

    private static void barredUntil(Due due) {
        Calls x = Scenes.living(1, 3);
        x.tick(5000);
        due.is("seen at 5000", 1, x.barred(1));
        x.tick(15079);
        due.is("10079 behind that", 1, x.barred(1));
        due.is("may not book", -5, x.book(1, 0, 15100, 15110));
        x.tick(15080);
        due.is("10080 behind that", 0, x.barred(1));
        due.is("may book", 4, x.book(1, 0, 15100, 15110));
        due.is("the no-shows stay", 3, x.noShows(1));
    }

    /** A scene at 20000 in which person 1 has had three no-shows, and is barred no more. */
    private static Calls barredOnce() {
        Calls x = Scenes.barred(1);
        x.tick(20000);
        return x;
    }

    private static void barredByEachThreeMore(Due due) {
        Calls x = barredOnce();
        for (int i = 4; i <= 6; i++) {
            due.is("not barred", 0, x.barred(1));
            due.is("books", i, x.book(1, 0, x.now(), x.now() + 10));
            due.is("one more", 1, x.tick(x.now() + 100));
            due.is("how many", i, x.noShows(1));
        }
        due.is("barred by the sixth", 1, x.barred(1));
        x.tick(20300 + 10079);
        due.is("10079 behind that", 1, x.barred(1));
        x.tick(20300 + 10080);
        due.is("10080 behind that", 0, x.barred(1));
        for (int i = 0; i < 3; i++) {
            x.book(1, 0, 31000 + i * 10, 31010 + i * 10);
        }
        x.tick(31031);
        due.is("eight", 8, x.noShows(1));
        due.is("are too few", 0, x.barred(1));
        x.tick(31041);
        due.is("nine are enough", 1, x.barred(1));
    }

    /** The third may come with others in one tick, before or behind it. */
    private static void barredByThreeOfSeveral(Due due) {
        Calls x = Scenes.living(1, 5);
        due.is("five at once", 5, x.tick(2000));
        due.is("barred by the third of them", 1, x.barred(1));
        x.tick(12079);
        due.is("10079 behind that", 1, x.barred(1));
        x.tick(12080);
        due.is("10080 behind that", 0, x.barred(1));
        for (int i = 0; i < 5; i++) {
            x.book(1, 0, 12100 + i * 10, 12110 + i * 10);
        }
        due.is("five more", 5, x.tick(13000));
        due.is("ten", 10, x.noShows(1));
        due.is("barred by the sixth and the ninth", 1, x.barred(1));
    }

    private static void barredLonger(Due due) {
        Calls x = barredAtThree();
        due.is("barred", 1, x.barred(1));
        due.is("three more", 3, x.tick(4000));
        due.is("six", 6, x.noShows(1));
        x.tick(3000 + 10080);
        due.is("10080 behind the third", 1, x.barred(1));
        x.tick(4000 + 10079);
        due.is("10079 behind the sixth", 1, x.barred(1));
        x.tick(4000 + 10080);
        due.is("10080 behind the sixth", 0, x.barred(1));
    }

    private static void notBarredLongerByOneMore(Due due) {
        Calls x = barredAtThree();
        x.cancel(6, 1);
        due.is("two more", 2, x.tick(4000));
        due.is("five", 5, x.noShows(1));
        x.tick(3000 + 10079);
        due.is("10079 behind the third", 1, x.barred(1));
        x.tick(3000 + 10080);
        due.is("10080 behind the third", 0, x.barred(1));
    }

    /** Person 1 has the third no-show at 3000, and bookings 4 to 6 of thing 0 from 3500 on. */
    private static Calls barredAtThree() {
        Calls x = Scenes.living(1, 2);
        x.tick(1100);
        x.book(1, 1, 1200, 1300);
        for (int i = 0; i < 3; i++) {
            x.book(1, 0, 3500 + i * 10, 3510 + i * 10);
        }
        x.tick(3000);
        return x;
    }
}
