/** Promises 1 to 4: a new object, thing, hours, holiday. */
final class SetUpSentences {
    private static final int DAY = Scenes.DAY;

    private SetUpSentences() {
    }

    static void say(Sentences s) {
        s.say("No things,", SetUpSentences::noThings);
        s.say("no hours,", SetUpSentences::noHours);
        s.say("no bookings.", SetUpSentences::noBookings, SetUpSentences::nothingElse);

        s.say("A thing more at a place,", SetUpSentences::thingAtAPlace);
        s.say("minutes 1 .. 1440 each,", SetUpSentences::minutes);
        s.say("the least not above the most,", SetUpSentences::leastAndMost);
        s.say("AHEAD 0 .. 100000,", SetUpSentences::ahead);
        s.say("GRACE 0 .. 120:", SetUpSentences::grace);
        s.say("its number;", SetUpSentences::thingNumber);
        s.say("NONE if these can't be,", SetUpSentences::thingsThatCantBe);
        s.say("there is no such place,", SetUpSentences::thingAtNoPlace);
        s.say("or there are 30.", SetUpSentences::thirtyThings);

        s.say("HOURS of a place on a weekday, 0 .. 6:", SetUpSentences::weekdays,
                SetUpSentences::hoursOfNoPlace);
        s.say("0 <= from < to <= 1440,", SetUpSentences::hours);
        s.say("or both 0 for none: 1;", SetUpSentences::hoursForNone);
        s.say("0 if these can't be.", SetUpSentences::hoursThatCantBe);
        s.say("Bookings that are there stay.", SetUpSentences::bookingsStay);

        s.say("A day, 0 .. 694, is a HOLIDAY:", SetUpSentences::holidays);
        s.say("how many there are;", SetUpSentences::howManyHolidays);
        s.say("0 if it can't be,", SetUpSentences::holidaysThatCantBe);
        s.say("is one already,", SetUpSentences::holidayTwice);
        s.say("or there are 40.", SetUpSentences::fortyHolidays);
    }

    private static void noThings(Due due) {
        Calls x = new Calls();
        for (int thing = -1; thing <= 30; thing++) {
            due.is("used(" + thing + ")", -1, x.used(thing));
            due.is("book thing " + thing, 0, x.book(0, thing, 0, 10));
            due.is("wish thing " + thing, 0, x.wish(0, thing, 0, 10, 0));
        }
        due.is("the first", 0, x.thing(0, 1, 1440, 100000, 0));
    }

    private static void noHours(Due due) {
        Calls x = new Calls();
        x.thing(0, 1, 1440, 100000, 0);
        for (int day = 0; day < 14; day++) {
            due.is("a minute of day " + day, -4, x.book(0, 0, day * DAY, day * DAY + 1));
        }
    }

    private static void noBookings(Due due) {
        Calls x = new Calls();
        for (int booking : new int[] {-1, 0, 1, 2, 200, 201}) {
            due.is("booking(" + booking + ", 0)", -1, x.booking(booking, 0));
            due.is("cancel", 0, x.cancel(booking, 0));
            due.is("checkIn", 0, x.checkIn(booking, 0));
            due.is("edit", 0, x.edit(booking, 0, 0, 10));
            due.is("recurring", 0, x.recurring(booking, 1, 1));
            due.is("equip", 0, x.equip(booking, 0));
            due.is("clash", false, x.clash(booking, booking));
        }
        due.is("list", 0, x.list(0, 0));
        due.is("tick", 0, x.tick(1000000));
    }

    private static void nothingElse(Due due) {
        Calls x = new Calls();
        for (int person = 0; person < 40; person++) {
            due.is("no-shows", 0, x.noShows(person));
            due.is("barred", 0, x.barred(person));
            due.is("wishes", 0, x.waiting(person));
        }
        due.is("no holidays", 1, x.holiday(0));
    }

    private static void thingAtAPlace(Due due) {
        for (int place = 0; place < 4; place++) {
            Calls x = new Calls();
            due.is("at place " + place, 0, x.thing(place, 1, 1440, 100000, 0));
            x.hours((place + 1) % 4, 0, 0, 1440);
            due.is("the next place is open", -4, x.book(0, 0, 100, 200));
            x.hours(place, 0, 0, 1440);
            due.is("its own place is open", 1, x.book(0, 0, 100, 200));
        }
    }

    private static void minutes(Due due) {
        Untouched.by(due, "least 0", -1, Scenes.busy(), x -> x.thing(0, 0, 1440, 0, 0));
        Untouched.by(due, "least -1", -1, Scenes.busy(), x -> x.thing(0, -1, 1440, 0, 0));
        Untouched.by(due, "least and most 0", -1, Scenes.busy(), x -> x.thing(0, 0, 0, 0, 0));
        Untouched.by(due, "most 1441", -1, Scenes.busy(), x -> x.thing(0, 1, 1441, 0, 0));
        Untouched.by(due, "both 1441", -1, Scenes.busy(), x -> x.thing(0, 1441, 1441, 0, 0));
        due.is("both 1", 5, Scenes.busy().thing(0, 1, 1, 0, 0));
        due.is("both 1440", 5, Scenes.busy().thing(0, 1440, 1440, 0, 0));
        due.is("1 and 1440", 5, Scenes.busy().thing(0, 1, 1440, 0, 0));
    }

    private static void leastAndMost(Due due) {
        due.is("the least below the most", 5, Scenes.busy().thing(0, 99, 100, 0, 0));
        due.is("the least is the most", 5, Scenes.busy().thing(0, 100, 100, 0, 0));
        Untouched.by(due, "the least above the most", -1, Scenes.busy(),
                x -> x.thing(0, 101, 100, 0, 0));
        Untouched.by(due, "the least far above the most", -1, Scenes.busy(),
                x -> x.thing(0, 1440, 1, 0, 0));
    }

    private static void ahead(Due due) {
        Untouched.by(due, "-1", -1, Scenes.busy(), x -> x.thing(0, 1, 10, -1, 0));
        Untouched.by(due, "100001", -1, Scenes.busy(), x -> x.thing(0, 1, 10, 100001, 0));
        due.is("0", 5, Scenes.busy().thing(0, 1, 10, 0, 0));
        due.is("100000", 5, Scenes.busy().thing(0, 1, 10, 100000, 0));
    }

    private static void grace(Due due) {
        Untouched.by(due, "-1", -1, Scenes.busy(), x -> x.thing(0, 1, 10, 0, -1));
        Untouched.by(due, "121", -1, Scenes.busy(), x -> x.thing(0, 1, 10, 0, 121));
        due.is("0", 5, Scenes.busy().thing(0, 1, 10, 0, 0));
        Calls x = Scenes.open();
        due.is("120", 5, x.thing(0, 1, 10, 100000, 120));
        x.book(1, 5, 100, 110);
        due.is("at its end", 0, x.tick(220));
        due.is("behind it", 1, x.tick(221));
    }

    private static void thingNumber(Due due) {
        Calls x = new Calls();
        for (int thing = 0; thing < 30; thing++) {
            due.is("one more", thing, x.thing(thing % 4, 1, 1, 0, 0));
        }
    }

    private static void thingsThatCantBe(Due due) {
        for (int far : new int[] {Scenes.LOWEST, Scenes.HIGHEST}) {
            Untouched.by(due, "place " + far, -1, Scenes.busy(), x -> x.thing(far, 1, 9, 0, 0));
            Untouched.by(due, "least " + far, -1, Scenes.busy(), x -> x.thing(0, far, 9, 0, 0));
            Untouched.by(due, "most " + far, -1, Scenes.busy(), x -> x.thing(0, 1, far, 0, 0));
            Untouched.by(due, "ahead " + far, -1, Scenes.busy(), x -> x.thing(0, 1, 9, far, 0));
            Untouched.by(due, "grace " + far, -1, Scenes.busy(), x -> x.thing(0, 1, 9, 0, far));
        }
    }

    private static void thingAtNoPlace(Due due) {
        Untouched.by(due, "place -1", -1, Scenes.busy(), x -> x.thing(-1, 1, 9, 0, 0));
        Untouched.by(due, "place 4", -1, Scenes.busy(), x -> x.thing(4, 1, 9, 0, 0));
        due.is("place 0", 5, Scenes.busy().thing(0, 1, 9, 0, 0));
        due.is("place 3", 5, Scenes.busy().thing(3, 1, 9, 0, 0));
    }

    private static void thirtyThings(Due due) {
        Calls x = Scenes.busy();
        for (int thing = 5; thing < 30; thing++) {
            due.is("one more", thing, x.thing(1, 1, 1440, 100000, 0));
        }
        Untouched.by(due, "a 31st", -1, x, y -> y.thing(1, 1, 1440, 100000, 0));
        due.is("the 30th may be booked", 10, x.book(9, 29, 500, 600));
        due.is("the 31st may not", 0, x.book(9, 30, 500, 600));
    }

    private static void weekdays(Due due) {
        Untouched.by(due, "-1", 0, Scenes.busy(), x -> x.hours(0, -1, 100, 200));
        Untouched.by(due, "7", 0, Scenes.busy(), x -> x.hours(0, 7, 100, 200));
        Untouched.by(due, "far below", 0, Scenes.busy(),
                x -> x.hours(0, Scenes.LOWEST, 100, 200));
        Untouched.by(due, "far above", 0, Scenes.busy(),
                x -> x.hours(0, Scenes.HIGHEST, 100, 200));
        for (int weekday = 0; weekday < 7; weekday++) {
            int midnight = (7 + weekday) * DAY;
            Calls x = Scenes.open();
            due.is("weekday " + weekday, 1, x.hours(0, weekday, 100, 200));
            due.is("before these hours", -4, x.book(0, 0, midnight + 90, midnight + 110));
            due.is("in them", 1, x.book(0, 0, midnight + 100, midnight + 200));
            due.is("the next day", 2, x.book(0, 0, midnight + DAY, midnight + DAY + 10));
            due.is("the day before", 3, x.book(0, 0, midnight - 10, midnight));
        }
    }

    private static void hoursOfNoPlace(Due due) {
        for (int place : new int[] {-1, 4, Scenes.LOWEST, Scenes.HIGHEST}) {
            Untouched.by(due, "place " + place, 0, Scenes.busy(),
                    x -> x.hours(place, 3, 100, 200));
            Untouched.by(due, "none at place " + place, 0, Scenes.busy(),
                    x -> x.hours(place, 3, 0, 0));
        }
        due.is("place 0", 1, Scenes.busy().hours(0, 3, 100, 200));
        due.is("place 3", 1, Scenes.busy().hours(3, 3, 100, 200));
    }

    private static void hours(Due due) {
        Calls x = new Calls();
        x.thing(0, 1, 1440, 100000, 0);
        due.is("a first minute", 1, x.hours(0, 0, 0, 1));
        due.is("it", 1, x.book(0, 0, 0, 1));
        due.is("the next", -4, x.book(0, 0, 1, 2));
        due.is("a last minute", 1, x.hours(0, 0, 1439, 1440));
        due.is("it", 2, x.book(0, 0, 1439, 1440));
        due.is("that before", -4, x.book(0, 0, 1438, 1439));
        due.is("all of them", 1, x.hours(0, 0, 0, 1440));
        due.is("these", 3, x.book(0, 0, 7 * DAY, 8 * DAY));
    }

    private static void hoursForNone(Due due) {
        Calls x = new Calls();
        x.thing(0, 1, 1440, 100000, 0);
        due.is("none where there were none", 1, x.hours(0, 0, 0, 0));
        due.is("a minute at 0", -4, x.book(0, 0, 0, 1));
        x.hours(0, 0, 100, 200);
        due.is("open", 1, x.book(0, 0, 100, 110));
        due.is("none", 1, x.hours(0, 0, 0, 0));
        due.is("closed", -4, x.book(0, 0, 110, 120));
        due.is("a minute at 0", -4, x.book(0, 0, 0, 1));
        due.is("hours again", 1, x.hours(0, 0, 100, 200));
        due.is("open", 2, x.book(0, 0, 110, 120));
    }

    private static void hoursThatCantBe(Due due) {
        int[][] times = {
            {-1, 200}, {-1, 0}, {-1, -1}, {100, 1441}, {1440, 1441}, {0, 1441}, {100, 100},
            {1, 1}, {1440, 1440}, {101, 100}, {1, 0}, {1440, 0}, {Scenes.LOWEST, 100},
            {100, Scenes.HIGHEST}, {Scenes.HIGHEST, Scenes.LOWEST},
            {Scenes.LOWEST, Scenes.HIGHEST},
        };
        for (int[] row : times) {
            Untouched.by(due, "from " + row[0] + " to " + row[1], 0, Scenes.busy(),
                    x -> x.hours(0, 3, row[0], row[1]));
        }
    }

    private static void bookingsStay(Due due) {
        Calls x = Scenes.equipped();
        x.hours(0, 0, 0, 0);
        due.is("one that is there", Scenes.BOOKED, x.stateOf(1));
        due.is("its equipment", Scenes.BOOKED, x.stateOf(2));
        due.is("its from", 100, x.fromOf(1));
        due.is("its to", 200, x.toOf(1));
        x.hours(0, 0, 0, 1440);
        due.is("its time is taken", -6, x.book(2, 0, 100, 200));
        x.hours(0, 0, 0, 0);
        x.tick(90);
        due.is("it may be checked in", 1, x.checkIn(1, 1));
        due.is("in", Scenes.IN, x.stateOf(2));
    }

    private static void holidays(Due due) {
        Calls x = Scenes.booked();
        due.is("the first day", 1, x.holiday(0));
        due.is("is one", -4, x.book(0, 0, 200, 300));
        due.is("what is there stays", Scenes.BOOKED, x.stateOf(1));
        due.is("the next is none", 2, x.book(0, 0, DAY, DAY + 10));
        due.is("the last day", 2, x.holiday(694));
        x.tick(950000);
        due.is("is one", -4, x.book(0, 0, 694 * DAY, 694 * DAY + 10));
        due.is("that before is none", 3, x.book(0, 0, 694 * DAY - 10, 694 * DAY));
    }

    private static void howManyHolidays(Due due) {
        Calls x = new Calls();
        due.is("one", 1, x.holiday(100));
        due.is("two", 2, x.holiday(50));
        due.is("refused", 0, x.holiday(50));
        due.is("three", 3, x.holiday(0));
    }

    private static void holidaysThatCantBe(Due due) {
        for (int day : new int[] {-1, 695, Scenes.LOWEST, Scenes.HIGHEST}) {
            Untouched.by(due, "day " + day, 0, Scenes.busy(), x -> x.holiday(day));
        }
        due.is("day 0", 2, Scenes.busy().holiday(0));
        due.is("day 694", 2, Scenes.busy().holiday(694));
    }

    private static void holidayTwice(Due due) {
        Untouched.by(due, "day 2 again", 0, Scenes.busy(), x -> x.holiday(2));
        due.is("day 1", 2, Scenes.busy().holiday(1));
    }

    private static void fortyHolidays(Due due) {
        Calls x = Scenes.fortyHolidays();
        Untouched.by(due, "a 41st", 0, x, y -> y.holiday(60));
        Untouched.by(due, "one that is one", 0, x, y -> y.holiday(59));
        due.is("the 41st is none", 2, x.book(2, 0, 60 * DAY, 60 * DAY + 10));
        due.is("the 40th is one", -4, x.book(2, 0, 59 * DAY, 59 * DAY + 10));
        due.is("the first is one", -4, x.book(2, 0, 20 * DAY, 20 * DAY + 10));
        due.is("the day before is none", 3, x.book(2, 0, 19 * DAY, 19 * DAY + 10));
    }
}
