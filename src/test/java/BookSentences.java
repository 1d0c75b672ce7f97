/** Promises 5 and 6: book, recurring. */
final class BookSentences {
    private static final int DAY = Scenes.DAY;

    private BookSentences() {
    }

    static void say(Sentences s) {
        s.say("A BOOKING: its number;", BookSentences::number);
        s.say("0 if there is no such person or thing,", BookSentences::noSuchPerson,
                BookSentences::noSuchThing);
        s.say("or there are 200;", BookSentences::twoHundred);
        s.say("or what it may not be.", BookSentences::mayNotBe);

        s.say("A booking that lives is booked for its person again",
                BookSentences::againForItsPerson, BookSentences::againInItsStates,
                BookSentences::againForEquipment);
        s.say("so many days later, 1 .. 60, and so on,", BookSentences::daysLater,
                BookSentences::daysThatCantBe);
        s.say("so many times, 1 .. 20:", BookSentences::times, BookSentences::timesThatCantBe);
        s.say("how many BOOKINGS that makes;", BookSentences::howMany);
        s.say("one that may not be by -3 ends it,", BookSentences::tooFarAhead);
        s.say("others are left out.", BookSentences::leftOutByTimes,
                BookSentences::leftOutByMinutes, BookSentences::leftOutByHours,
                BookSentences::leftOutByFive, BookSentences::leftOutByBarred,
                BookSentences::leftOutByClash);
        s.say("0 if it does not live,", BookSentences::doesNotLive);
        s.say("or numbers can't be;", BookSentences::numbersThatCantBe);
        s.say("it ends also when there are 200.", BookSentences::endsAtTwoHundred);
    }

    private static void number(Due due) {
        Calls x = Scenes.open();
        due.is("the first", 1, x.book(39, 4, 100, 200));
        due.is("the second", 2, x.book(0, 0, 100, 200));
        int[] first = {39, 4, 100, 200, Scenes.BOOKED, 0};
        int[] second = {0, 0, 100, 200, Scenes.BOOKED, 0};
        for (int what = 0; what <= 5; what++) {
            due.is("the first's " + what, first[what], x.booking(1, what));
            due.is("the second's " + what, second[what], x.booking(2, what));
        }
    }

    private static void noSuchPerson(Due due) {
        for (int person : new int[] {-1, 40, Scenes.LOWEST, Scenes.HIGHEST}) {
            Untouched.by(due, "person " + person, 0, Scenes.busy(),
                    x -> x.book(person, 3, 500, 600));
        }
        due.is("before -1", 0, Scenes.busy().book(40, 3, 600, 500));
        due.is("person 0", 10, Scenes.busy().book(0, 3, 500, 600));
        due.is("person 39", 10, Scenes.busy().book(39, 3, 500, 600));
    }

    private static void noSuchThing(Due due) {
        for (int thing : new int[] {-1, 5, 29, 30, Scenes.LOWEST, Scenes.HIGHEST}) {
            Untouched.by(due, "thing " + thing, 0, Scenes.busy(),
                    x -> x.book(9, thing, 500, 600));
        }
        due.is("before -1", 0, Scenes.busy().book(9, 5, 600, 500));
        due.is("the last thing", 10, Scenes.busy().book(9, 4, 500, 600));
        due.is("the first thing", 10, Scenes.busy().book(9, 0, 500, 600));
    }

    private static void twoHundred(Due due) {
        Calls x = Scenes.filled(199);
        due.is("a 200th", 200, x.book(39, 0, 1000, 1010));
        x.cancel(1, 0);
        Untouched.by(due, "a 201st", 0, x, y -> y.book(0, 0, 1000, 1100));
        Untouched.by(due, "a 201st, from above to", 0, x, y -> y.book(0, 0, 1100, 1000));
        Untouched.by(due, "a 201st of a person with five", 0, x,
                y -> y.book(1, 0, 1000, 1100));
    }

    private static void mayNotBe(Due due) {
        Calls x = Scenes.busy();
        Untouched.by(due, "-1", -1, x, y -> y.book(9, 3, 500, 500));
        Untouched.by(due, "-2", -2, x, y -> y.book(9, 3, 500, 509));
        Untouched.by(due, "-3", -3, x, y -> y.book(9, 3, 399, 450));
        Untouched.by(due, "-4", -4, x, y -> y.book(9, 3, 2 * DAY, 2 * DAY + 10));
        Untouched.by(due, "-5", -5, x, y -> y.book(7, 3, 500, 600));
        Untouched.by(due, "-6", -6, x, y -> y.book(9, 1, 500, 600));
        due.is("it may", 10, x.book(9, 3, 500, 600));
    }

    private static void againForItsPerson(Due due) {
        Calls x = Scenes.open();
        x.book(6, 2, 130, 270);
        due.is("once", 1, x.recurring(1, 3, 1));
        int[] again = {6, 2, 3 * DAY + 130, 3 * DAY + 270, Scenes.BOOKED, 0};
        int[] itself = {6, 2, 130, 270, Scenes.BOOKED, 0};
        for (int what = 0; what <= 5; what++) {
            due.is("its " + what, again[what], x.booking(2, what));
            due.is("the first's " + what, itself[what], x.booking(1, what));
        }
    }

    private static void againInItsStates(Due due) {
        due.is("booked", 1, Scenes.inState(Scenes.BOOKED).recurring(1, 1, 1));
        Calls x = Scenes.inState(Scenes.IN);
        due.is("in", 1, x.recurring(1, 1, 1));
        due.is("the new one is booked", Scenes.BOOKED, x.stateOf(2));
        due.is("the first is in", Scenes.IN, x.stateOf(1));
        x.tick(199);
        due.is("in, and begun long ago", 1, x.recurring(1, 2, 1));
        due.is("its from", 2 * DAY + 100, x.fromOf(3));
        Calls begun = Scenes.booked();
        begun.tick(120);
        due.is("booked, and begun", 1, begun.recurring(1, 1, 1));
    }

    /** A booking of its own: the equipment that goes with a booking does not come again with it. */
    private static void againForEquipment(Due due) {
        Calls x = Scenes.equipped();
        due.is("what has equipment", 1, x.recurring(1, 1, 1));
        due.is("its thing", 0, x.thingOf(3));
        due.is("no more", -1, x.thingOf(4));
        due.is("equipment", 1, x.recurring(2, 1, 1));
        due.is("its thing", 1, x.thingOf(4));
        due.is("it goes with none", 0, x.withOf(4));
    }

    private static void daysLater(Due due) {
        Calls x = Scenes.booked();
        due.is("a day", 2, x.recurring(1, 1, 2));
        due.is("a day later", DAY + 100, x.fromOf(2));
        due.is("its end", DAY + 200, x.toOf(2));
        due.is("two days later", 2 * DAY + 100, x.fromOf(3));
        due.is("60 days", 1, x.recurring(1, 60, 1));
        due.is("60 days later", 60 * DAY + 100, x.fromOf(4));
        Calls week = Scenes.booked();
        due.is("a week", 3, week.recurring(1, 7, 3));
        for (int i = 1; i <= 3; i++) {
            due.is(i + " weeks later", i * 7 * DAY + 100, week.fromOf(1 + i));
        }
    }

    private static void daysThatCantBe(Due due) {
        for (int days : new int[] {0, -1, 61, Scenes.LOWEST, Scenes.HIGHEST}) {
            Untouched.by(due, days + " days", 0, Scenes.busy(), x -> x.recurring(6, days, 1));
        }
    }

    /** Nineteen days later all is closed, so only the last of twenty times may be. */
    private static void times(Due due) {
        Calls x = Scenes.booked();
        for (int day = 1; day <= 19; day++) {
            x.holiday(day);
        }
        due.is("19 times", 0, x.recurring(1, 1, 19));
        due.is("20 times", 1, x.recurring(1, 1, 20));
        due.is("the twentieth", 20 * DAY + 100, x.fromOf(2));
        due.is("once", 1, Scenes.booked().recurring(1, 1, 1));
    }

    private static void timesThatCantBe(Due due) {
        for (int times : new int[] {0, -1, 21, Scenes.LOWEST, Scenes.HIGHEST}) {
            Untouched.by(due, times + " times", 0, Scenes.busy(), x -> x.recurring(6, 1, times));
        }
    }

    private static void howMany(Due due) {
        due.is("one", 1, Scenes.booked().recurring(1, 1, 1));
        due.is("four", 4, Scenes.booked().recurring(1, 1, 4));
        due.is("five are the most that live", 4, Scenes.booked().recurring(1, 1, 5));
        Untouched.by(due, "none, as five live", 0, Scenes.living(1, 5),
                x -> x.recurring(1, 1, 20));
    }

    private static void tooFarAhead(Due due) {
        Calls x = new Calls();
        x.thing(0, 10, 100, 3 * DAY, 0);
        for (int weekday = 0; weekday < 7; weekday++) {
            x.hours(0, weekday, 0, 1440);
        }
        x.book(1, 0, 0, 100);
        due.is("up to three days ahead", 3, x.recurring(1, 1, 20));
        due.is("the last", 3 * DAY, x.fromOf(4));
        due.is("no more", -1, x.fromOf(5));
        Calls minute = new Calls();
        minute.thing(0, 10, 100, 3 * DAY, 0);
        for (int weekday = 0; weekday < 7; weekday++) {
            minute.hours(0, weekday, 0, 1440);
        }
        minute.book(1, 0, 1, 100);
        due.is("the third is a minute too far", 2, minute.recurring(1, 1, 20));
        Untouched.by(due, "the first is too far", 0, minute, y -> y.recurring(1, 4, 1));
    }

    private static void leftOutByTimes(Due due) {
        Calls x = Scenes.open();
        x.tick(998000);
        x.book(1, 0, 998000, 998560);
        due.is("up to the last time", 1, x.recurring(1, 1, 20));
        due.is("its end", 1000000, x.toOf(2));
        Calls minute = Scenes.open();
        minute.tick(998000);
        minute.book(1, 0, 998000, 998561);
        Untouched.by(due, "a minute above it", 0, minute, y -> y.recurring(1, 1, 20));
        Untouched.by(due, "far above it", 0, minute, y -> y.recurring(1, 60, 20));
    }

    /** Equipment may be shorter or longer than its own rule; what comes again may not. */
    private static void leftOutByMinutes(Due due) {
        Calls x = Scenes.booked();
        x.thing(0, 101, 200, 100000, 0);
        x.thing(0, 10, 99, 100000, 0);
        x.thing(0, 100, 100, 100000, 0);
        for (int thing = 5; thing <= 7; thing++) {
            due.is("equipment", thing - 3, x.equip(1, thing));
        }
        Untouched.by(due, "too short", 0, x, y -> y.recurring(2, 1, 3));
        Untouched.by(due, "too long", 0, x, y -> y.recurring(3, 1, 3));
        due.is("neither", 1, x.recurring(4, 1, 3));
    }

    private static void leftOutByHours(Due due) {
        Calls x = Scenes.booked();
        x.holiday(2);
        x.hours(0, 3, 101, 1440);
        x.hours(0, 4, 0, 199);
        x.hours(0, 5, 100, 200);
        x.hours(0, 6, 0, 0);
        due.is("days 1, 5 and 7", 3, x.recurring(1, 1, 7));
        due.is("the first", DAY + 100, x.fromOf(2));
        due.is("the second", 5 * DAY + 100, x.fromOf(3));
        due.is("the third", 7 * DAY + 100, x.fromOf(4));
    }

    private static void leftOutByFive(Due due) {
        Calls x = Scenes.living(1, 3);
        due.is("two more", 2, x.recurring(1, 2, 20));
        due.is("the last", 4 * DAY + 1000, x.fromOf(5));
        due.is("no more", -1, x.fromOf(6));
    }

    private static void leftOutByBarred(Due due) {
        Calls x = Scenes.living(1, 4);
        x.edit(4, 1, 5000, 5100);
        x.tick(2000);
        due.is("barred", 1, x.barred(1));
        Untouched.by(due, "barred", 0, x, y -> y.recurring(4, 1, 5));
        x.tick(4990);
        x.checkIn(4, 1);
        Untouched.by(due, "barred, and in", 0, x, y -> y.recurring(4, 1, 5));
    }

    private static void leftOutByClash(Due due) {
        Calls x = Scenes.booked();
        x.book(2, 0, DAY + 199, DAY + 300);
        x.book(2, 0, 2 * DAY + 200, 2 * DAY + 300);
        x.book(2, 0, 3 * DAY + 50, 3 * DAY + 101);
        x.book(2, 0, 4 * DAY + 50, 4 * DAY + 100);
        due.is("days 2 and 4", 2, x.recurring(1, 1, 4));
        due.is("the first", 2 * DAY + 100, x.fromOf(6));
        due.is("the second", 4 * DAY + 100, x.fromOf(7));
        Untouched.by(due, "all of them", 0, x, y -> y.recurring(1, 1, 4));
    }

    private static void doesNotLive(Due due) {
        for (int state : new int[] {Scenes.DONE, Scenes.CANCELLED, Scenes.NO_SHOW}) {
            Untouched.by(due, "state " + state, 0, Scenes.inState(state),
                    x -> x.recurring(1, 1, 1));
        }
    }

    private static void numbersThatCantBe(Due due) {
        for (int booking : new int[] {-1, 0, 2, 200, 201, Scenes.LOWEST, Scenes.HIGHEST}) {
            Untouched.by(due, "booking " + booking, 0, Scenes.booked(),
                    x -> x.recurring(booking, 1, 1));
        }
        Untouched.by(due, "all far off", 0, Scenes.booked(),
                x -> x.recurring(1, Scenes.HIGHEST, Scenes.HIGHEST));
    }

    private static void endsAtTwoHundred(Due due) {
        Calls x = Scenes.filled(196);
        due.is("196 are there, and four more may be", 4, x.recurring(196, 1, 20));
        due.is("the 200th", 4 * DAY + 460, x.fromOf(200));
        Calls two = Scenes.filled(198);
        two.cancel(1, 0);
        two.cancel(2, 0);
        two.cancel(3, 0);
        due.is("two more, though three may be", 2, two.recurring(4, 7, 3));
        due.is("the 200th", 17 * DAY + 100, two.fromOf(200));
        Untouched.by(due, "there are 200", 0, two, y -> y.recurring(4, 1, 1));
    }
}
