/** The terms, up to what a clash is. */
final class TermsSentences {
    private static final int DAY = Scenes.DAY;

    private TermsSentences() {
    }

    static void say(Sentences s) {
        s.say("TIMES are minutes, 0 .. 1000000;", TermsSentences::firstTime,
                TermsSentences::lastTime);
        s.say("a DAY has 1440 of them;", TermsSentences::day);
        s.say("its WEEKDAY is its number modulo 7.", TermsSentences::weekday,
                TermsSentences::lastWeekdays);
        s.say("NOW is 0 at first, and goes on by tick alone.", TermsSentences::nowAtFirst,
                TermsSentences::nowByTickAlone);
        s.say("PERSONS are 0 .. 39;", TermsSentences::persons);
        s.say("PLACES 0 .. 3,", TermsSentences::places);
        s.say("each with HOURS for each weekday (from a minute of the day to one, none at first);",
                TermsSentences::noHoursAtFirst, TermsSentences::hoursOfEach);
        s.say("HOLIDAYS are days, 40 at most.", TermsSentences::holidays);
        s.say("THINGS are 0 .. 29, as they come,", TermsSentences::things);
        s.say("each at a place, with RULES:", TermsSentences::eachAtItsPlace);
        s.say("the least and the most minutes of a booking,", TermsSentences::minutesOfEach);
        s.say("how many minutes AHEAD it may begin, at most,", TermsSentences::aheadOfEach);
        s.say("GRACE minutes for checking in.", TermsSentences::graceOfEach);
        s.say("BOOKINGS are 1 .. 200, as they come:", TermsSentences::bookings,
                TermsSentences::refusedOnesHaveNoNumber);
        s.say("a person, a thing, from a time to one (it itself does not belong to it),",
                TermsSentences::endDoesNotBelong);
        s.say("in a state: 0 BOOKED, 1 IN, 2 DONE, 3 CANCELLED, 4 NO-SHOW.",
                TermsSentences::states);
        s.say("BOOKED and IN ones LIVE.", TermsSentences::whichLive);
        s.say("Two bookings CLASH if they are of one thing, both live,"
                + " and have a minute in common.", TermsSentences::clash,
                TermsSentences::clashOfWhatLives);
    }

    private static void firstTime(Due due) {
        Calls x = Scenes.open();
        due.is("a minute before the first", -1, x.book(0, 0, -1, 10));
        due.is("far before it", -1, x.book(0, 0, Scenes.LOWEST, 10));
        due.is("both before it", -1, x.book(0, 0, -20, -10));
        due.is("from before it, to far behind", -1,
                x.book(0, 0, Scenes.LOWEST, Scenes.HIGHEST));
        due.is("the first", 1, x.book(0, 0, 0, 10));
        due.is("its from", 0, x.fromOf(1));
    }

    private static void lastTime(Due due) {
        Calls x = Scenes.open();
        x.tick(999980);
        due.is("a minute behind the last", -1, x.book(0, 0, 999990, 1000001));
        due.is("far behind it", -1, x.book(0, 0, 999990, Scenes.HIGHEST));
        due.is("from the last", -1, x.book(0, 0, 1000000, 1000010));
        due.is("both far behind it", -1, x.book(0, 0, Scenes.HIGHEST - 10, Scenes.HIGHEST));
        due.is("to the last", 1, x.book(0, 0, 999990, 1000000));
        due.is("its to", 1000000, x.toOf(1));
        x.checkIn(1, 0);
        due.is("tick behind the last", -1, x.tick(1000001));
        due.is("tick to the last", 0, x.tick(1000000));
        due.is("what ends there is done", Scenes.DONE, x.stateOf(1));
    }

    private static void day(Due due) {
        Calls x = Scenes.open();
        due.is("a whole day", 1, x.book(0, 0, DAY, 2 * DAY));
        due.is("its last minutes", 2, x.book(0, 1, DAY - 10, DAY));
        due.is("the next one's first", 3, x.book(0, 1, DAY, DAY + 10));
        due.is("one minute of the next day", -4, x.book(0, 2, DAY - 9, DAY + 1));
        due.is("one minute of the day before", -4, x.book(0, 2, DAY - 1, DAY + 9));
        due.is("half and half", -4, x.book(0, 2, DAY - 5, DAY + 5));
    }

    private static void weekday(Due due) {
        Calls x = new Calls();
        x.thing(0, 1, 1440, 100000, 0);
        x.hours(0, 6, 0, 1440);
        int booking = 0;
        for (int day = 0; day < 28; day++) {
            boolean open = day == 6 || day == 13 || day == 20 || day == 27;
            booking += open ? 1 : 0;
            due.is("weekday 6 on day " + day, open ? booking : -4,
                    x.book(day / 7, 0, day * DAY + 100, day * DAY + 200));
        }
    }

    private static void lastWeekdays(Due due) {
        Calls x = new Calls();
        x.thing(0, 1, 1440, 100000, 0);
        x.hours(0, 0, 0, 1440);
        x.tick(990000);
        due.is("day 692 is a weekday 6", -4, x.book(0, 0, 692 * DAY, 692 * DAY + 1));
        due.is("day 693 is a weekday 0", 1, x.book(0, 0, 693 * DAY, 693 * DAY + 1));
        due.is("day 694 is a weekday 1", -4, x.book(0, 0, 694 * DAY, 694 * DAY + 1));
        x.hours(0, 1, 0, 1440);
        due.is("day 694, open", 2, x.book(0, 0, 694 * DAY, 694 * DAY + 1));
    }

    private static void nowAtFirst(Due due) {
        Calls x = new Calls();
        x.thing(0, 1, 10, 0, 0);
        x.hours(0, 0, 0, 1440);
        due.is("no minute ahead, from 1", -3, x.book(0, 0, 1, 2));
        due.is("no minute ahead, from 0", 1, x.book(0, 0, 0, 1));
        due.is("tick to 0", -1, x.tick(0));
        due.is("tick to 1", 1, x.tick(1));
    }

    /** Every other call is made, and NOW is what it was: no minute ahead may be, none behind. */
    private static void nowByTickAlone(Due due) {
        Calls x = Scenes.open();
        x.thing(0, 1, 10, 0, 0);
        x.tick(50);
        x.holiday(9);
        x.book(1, 0, 50, 200);
        x.recurring(1, 1, 2);
        x.wish(2, 0, 50, 200, 0);
        x.equip(2, 1);
        x.edit(3, 1, 9000, 9100);
        x.cancel(3, 1);
        x.checkIn(1, 1);
        x.clash(1, 2);
        x.list(1, 0);
        x.person(1, 1);
        x.used(0);
        due.is("a minute ahead", -3, x.book(3, 5, 51, 52));
        due.is("a minute before", -3, x.book(3, 5, 49, 50));
        due.is("now", 5, x.book(3, 5, 50, 51));
        due.is("tick to the same", -1, x.tick(50));
        due.is("tick on, past a grace of 0", 1, x.tick(51));
    }

    private static void persons(Due due) {
        Calls x = Scenes.open();
        for (int person : new int[] {-1, 40, Scenes.LOWEST, Scenes.HIGHEST}) {
            due.is("book for person " + person, 0, x.book(person, 0, 100, 200));
            due.is("ask of person " + person, -1, x.person(person, 0));
        }
        for (int person = 0; person < 40; person++) {
            due.is("book for person " + person, person + 1,
                    x.book(person, 0, 100 + person * 10, 110 + person * 10));
            due.is("ask of person " + person, 0, x.person(person, 0));
            due.is("list of person " + person, person + 1, x.list(person, 0));
        }
    }

    private static void places(Due due) {
        Calls x = new Calls();
        for (int place : new int[] {-1, 4, Scenes.LOWEST, Scenes.HIGHEST}) {
            due.is("thing at place " + place, -1, x.thing(place, 1, 1, 0, 0));
            due.is("hours of place " + place, 0, x.hours(place, 0, 0, 1440));
        }
        for (int place = 0; place < 4; place++) {
            due.is("thing at place " + place, place, x.thing(place, 1, 1, 0, 0));
            due.is("hours of place " + place, 1, x.hours(place, 0, 0, 1440));
        }
    }

    private static Calls aThingAtEachPlace() {
        Calls x = new Calls();
        for (int place = 0; place < 4; place++) {
            x.thing(place, 1, 1440, 100000, 0);
        }
        return x;
    }

    private static void noHoursAtFirst(Due due) {
        Calls x = aThingAtEachPlace();
        for (int place = 0; place < 4; place++) {
            for (int day = 0; day < 7; day++) {
                due.is("at midnight", -4, x.book(0, place, day * DAY, day * DAY + 1));
                due.is("all day", -4, x.book(0, place, day * DAY, day * DAY + DAY));
            }
        }
    }

    /** Hours of one place on one weekday are those of no other. */
    private static void hoursOfEach(Due due) {
        for (int row = 0; row < 28; row++) {
            Calls x = aThingAtEachPlace();
            x.hours(row / 7, row % 7, 100, 200);
            for (int other = 0; other < 28; other++) {
                int midnight = other % 7 * DAY;
                due.is("hours of row " + row + " in row " + other, row == other ? 1 : -4,
                        x.book(0, other / 7, midnight + 100, midnight + 200));
            }
        }
    }

    private static void holidays(Due due) {
        Calls x = Scenes.open();
        for (int i = 1; i <= 40; i++) {
            due.is("a holiday", i, x.holiday(i));
        }
        due.is("a 41st", 0, x.holiday(41));
        due.is("a whole day is one", -4, x.book(0, 0, 40 * DAY, 41 * DAY));
        due.is("the 41st is none", 1, x.book(0, 0, 41 * DAY, 42 * DAY));
        due.is("nor is day 0", 2, x.book(0, 0, 0, DAY));
    }

    private static void things(Due due) {
        Calls x = new Calls();
        due.is("none is there yet", -1, x.used(0));
        for (int thing = 0; thing < 30; thing++) {
            due.is("a refused one has no number", -1, x.thing(0, 0, 0, 0, 0));
            due.is("a thing", thing, x.thing(0, 1, 1, 0, 0));
            due.is("it is there", 0, x.used(thing));
            due.is("the next is not", -1, x.used(thing + 1));
        }
        due.is("a 31st", -1, x.thing(0, 1, 1, 0, 0));
        due.is("is not there", -1, x.used(30));
    }

    private static void eachAtItsPlace(Due due) {
        Calls x = aThingAtEachPlace();
        x.hours(2, 0, 0, 1440);
        due.is("thing at place 0", -4, x.book(0, 0, 100, 200));
        due.is("thing at place 1", -4, x.book(0, 1, 100, 200));
        due.is("thing at place 2", 1, x.book(0, 2, 100, 200));
        due.is("thing at place 3", -4, x.book(0, 3, 100, 200));
    }

    /** Thirty things, each with rules of its own; all are open always. */
    private static Calls thirtyThings() {
        Calls x = new Calls();
        for (int thing = 0; thing < 30; thing++) {
            x.thing(0, 10 + thing, 20 + 2 * thing, 200 + thing, 4 * thing);
        }
        for (int weekday = 0; weekday < 7; weekday++) {
            x.hours(0, weekday, 0, 1440);
        }
        return x;
    }

    private static void minutesOfEach(Due due) {
        Calls x = thirtyThings();
        for (int thing = 0; thing < 30; thing++) {
            int least = 10 + thing;
            int most = 20 + 2 * thing;
            due.is("below the least", -2, x.book(thing, thing, 0, least - 1));
            due.is("the least", 2 * thing + 1, x.book(thing, thing, 0, least));
            due.is("above the most", -2, x.book(thing, thing, 100, 100 + most + 1));
            due.is("the most", 2 * thing + 2, x.book(thing, thing, 100, 100 + most));
        }
    }

    private static void aheadOfEach(Due due) {
        Calls x = thirtyThings();
        for (int thing = 0; thing < 30; thing++) {
            int last = 200 + thing;
            int minutes = 10 + thing;
            due.is("further", -3, x.book(thing, thing, last + 1, last + 1 + minutes));
            due.is("as far", thing + 1, x.book(thing, thing, last, last + minutes));
        }
    }

    /** Each thing's booking is there until its own grace is over. */
    private static void graceOfEach(Due due) {
        Calls x = thirtyThings();
        for (int thing = 0; thing < 30; thing++) {
            x.book(thing, thing, 100, 100 + 10 + thing);
        }
        x.tick(100);
        for (int thing = 0; thing < 30; thing++) {
            int grace = 4 * thing;
            if (grace > 0) {
                due.is("no-shows at the end of grace", 0, x.tick(100 + grace));
            }
            if (thing % 2 == 0) {
                due.is("check-in at the end of grace", 1, x.checkIn(thing + 1, thing));
            }
            due.is("no-shows behind it", thing % 2, x.tick(100 + grace + 1));
        }
    }

    private static void bookings(Due due) {
        Calls x = Scenes.full();
        due.is("0 is none", -1, x.personOf(0));
        due.is("the first", 0, x.personOf(1));
        due.is("one by one", 1, x.personOf(6));
        due.is("the last", 39, x.personOf(200));
        due.is("201 is none", -1, x.personOf(201));
        x.cancel(200, 39);
        due.is("a cancelled one keeps its number", 0, x.book(39, 0, 1000, 1010));
        due.is("and is still there", Scenes.CANCELLED, x.stateOf(200));
    }

    private static void refusedOnesHaveNoNumber(Due due) {
        Calls x = Scenes.booked();
        due.is("would clash", -6, x.book(2, 0, 100, 200));
        due.is("no such thing", 0, x.book(2, 5, 100, 200));
        due.is("the next number", 2, x.book(2, 0, 200, 300));
        due.is("and the next", 3, x.equip(2, 1));
    }

    private static void endDoesNotBelong(Due due) {
        Calls x = Scenes.booked();
        due.is("person", 1, x.personOf(1));
        due.is("thing", 0, x.thingOf(1));
        due.is("from", 100, x.fromOf(1));
        due.is("to", 200, x.toOf(1));
        due.is("from its last minute on", -6, x.book(2, 0, 199, 210));
        due.is("from its end on", 2, x.book(2, 0, 200, 210));
        due.is("to its second minute", -6, x.book(2, 0, 90, 101));
        due.is("to its beginning", 3, x.book(2, 0, 90, 100));
    }

    private static void states(Due due) {
        due.is("BOOKED", 0, Scenes.inState(Scenes.BOOKED).stateOf(1));
        due.is("IN", 1, Scenes.inState(Scenes.IN).stateOf(1));
        due.is("DONE", 2, Scenes.inState(Scenes.DONE).stateOf(1));
        due.is("CANCELLED", 3, Scenes.inState(Scenes.CANCELLED).stateOf(1));
        due.is("NO-SHOW", 4, Scenes.inState(Scenes.NO_SHOW).stateOf(1));
    }

    private static void whichLive(Due due) {
        for (int state = Scenes.BOOKED; state <= Scenes.NO_SHOW; state++) {
            boolean lives = state == Scenes.BOOKED || state == Scenes.IN;
            Calls x = Scenes.inState(state);
            due.is("listed in state " + state, lives ? 1 : 0, x.list(1, 0));
            for (int i = 0; i < 4; i++) {
                x.book(1, 3, 1000 + i * 10, 1010 + i * 10);
            }
            due.is("counted in state " + state, lives ? -5 : 6, x.book(1, 2, 1000, 1010));
            due.is("again in state " + state, lives ? 1 : 0,
                    Scenes.inState(state).recurring(1, 1, 1));
        }
    }

    private static void clash(Due due) {
        int[][] times = {
            {50, 99, 2}, {50, 100, 2}, {50, 101, -6}, {50, 150, -6}, {50, 200, -6}, {50, 250, -6},
            {100, 150, -6}, {100, 200, -6}, {100, 250, -6}, {120, 180, -6}, {150, 200, -6},
            {150, 250, -6}, {190, 200, -6}, {199, 250, -6}, {200, 250, 2}, {201, 250, 2},
        };
        for (int[] row : times) {
            due.is(row[0] + " to " + row[1], row[2],
                    Scenes.booked().book(2, 0, row[0], row[1]));
            due.is(row[0] + " to " + row[1] + " of another thing", 2,
                    Scenes.booked().book(2, 1, row[0], row[1]));
        }
    }

    private static void clashOfWhatLives(Due due) {
        due.is("booked", -6, Scenes.inState(Scenes.BOOKED).book(2, 0, 150, 200));
        due.is("in", -6, Scenes.inState(Scenes.IN).book(2, 0, 150, 200));
        due.is("cancelled", 2, Scenes.inState(Scenes.CANCELLED).book(2, 0, 100, 200));
        due.is("no-show", 2, Scenes.inState(Scenes.NO_SHOW).book(2, 0, 150, 200));
        due.is("done", 2, Scenes.inState(Scenes.DONE).book(2, 0, 200, 250));
    }
}
