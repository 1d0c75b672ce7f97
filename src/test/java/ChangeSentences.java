/** Promises 9 to 11: edit, equip, wish. */
final class ChangeSentences {
    private static final int DAY = Scenes.DAY;
    private static final int[] NO_BOOKINGS = {-1, 0, 10, 200, 201, Scenes.LOWEST, Scenes.HIGHEST};

    private ChangeSentences() {
    }

    static void say(Sentences s) {
        s.say("A booking has other times: 1;", ChangeSentences::edited,
                ChangeSentences::editedWhenBegun, ChangeSentences::editedIsCheckedByItsNewTimes);
        s.say("0 as in cancel,", ChangeSentences::editNone, ChangeSentences::editNotBooked,
                ChangeSentences::editAnothers);
        s.say("or EQUIPMENT that lives goes with it,", ChangeSentences::editWithEquipment,
                ChangeSentences::editWithoutLivingEquipment);
        s.say("or it is EQUIPMENT;", ChangeSentences::editEquipment);
        s.say("or what it may not be.", ChangeSentences::editThatMayNotBe);

        s.say("Another thing, of the same place, goes as EQUIPMENT with a booking that is BOOKED:",
                ChangeSentences::equipped, ChangeSentences::equipNotBooked);
        s.say("a BOOKING of it, for the same person and times",
                ChangeSentences::samePersonAndTimes);
        s.say("(whatever its rules of minutes, AHEAD and how many):",
                ChangeSentences::whateverItsRules, ChangeSentences::howeverMany,
                ChangeSentences::whateverElse);
        s.say("its number;", ChangeSentences::equipmentsNumber);
        s.say("0 if there is none such,", ChangeSentences::equipNone);
        s.say("it is EQUIPMENT itself,", ChangeSentences::equipEquipment);
        s.say("the thing is the same, elsewhere, or not there,", ChangeSentences::equipWithWhat);
        s.say("or there are 200;", ChangeSentences::equipTwoHundred);
        s.say("-6 if it would clash.", ChangeSentences::equipClash);

        s.say("A wish more, with a RANK, that may not be now by -6 alone:",
                ChangeSentences::wish, ChangeSentences::wishOfAnyRank);
        s.say("how many wait;", ChangeSentences::howManyWait);
        s.say("0 if there is no such person or thing,", ChangeSentences::wishOfNoPerson,
                ChangeSentences::wishForNoThing);
        s.say("or 60 wait;", ChangeSentences::sixtyWait);
        s.say("NONE if it may be booked,", ChangeSentences::wishThatMayBe);
        s.say("or may not be by another reason.", ChangeSentences::wishThatMayNotBe);
    }

    private static void edited(Due due) {
        Calls x = Scenes.booked();
        x.book(2, 1, 100, 200);
        due.is("other times", 1, x.edit(1, 1, 3 * DAY + 300, 3 * DAY + 450));
        int[] now = {1, 0, 3 * DAY + 300, 3 * DAY + 450, Scenes.BOOKED, 0};
        for (int what = 0; what <= 5; what++) {
            due.is("its " + what, now[what], x.booking(1, what));
        }
        due.is("another one's from", 100, x.fromOf(2));
        due.is("no new one", -1, x.fromOf(3));
        due.is("what it left is free", 3, x.book(3, 0, 100, 200));
        due.is("what it has is not", -6, x.book(3, 0, 3 * DAY + 300, 3 * DAY + 310));
        due.is("to the same times", 1, x.edit(1, 1, 3 * DAY + 300, 3 * DAY + 450));
    }

    /** Only what cancel answers with 0 is refused like there: that it has begun is not. */
    private static void editedWhenBegun(Due due) {
        Calls x = Scenes.booked();
        x.tick(100);
        due.is("at its beginning", 1, x.again().edit(1, 1, 150, 250));
        Untouched.by(due, "to before NOW", -3, x, y -> y.edit(1, 1, 99, 250));
        due.is("from NOW on", 1, x.again().edit(1, 1, 100, 250));
        x.tick(120);
        due.is("at the end of grace", 1, x.edit(1, 1, 300, 400));
        due.is("no no-show by its old times", 0, x.tick(200));
        due.is("booked", Scenes.BOOKED, x.stateOf(1));
    }

    private static void editedIsCheckedByItsNewTimes(Due due) {
        Calls x = Scenes.booked();
        x.edit(1, 1, 300, 400);
        x.tick(284);
        due.is("16 minutes before", -1, x.checkIn(1, 1));
        x.tick(285);
        due.is("15 minutes before", 1, x.checkIn(1, 1));
        x.tick(399);
        due.is("in", Scenes.IN, x.stateOf(1));
        x.tick(400);
        due.is("done", Scenes.DONE, x.stateOf(1));
        due.is("its minutes", 100, x.used(0));
    }

    private static void editNone(Due due) {
        for (int booking : NO_BOOKINGS) {
            Untouched.by(due, "booking " + booking, 0, Scenes.busy(),
                    x -> x.edit(booking, 1, 1000, 1100));
        }
        Untouched.by(due, "booking 0 of person 0", 0, Scenes.open(),
                x -> x.edit(0, 0, 1000, 1100));
        due.is("before -1", 0, Scenes.busy().edit(10, 1, 1100, 1000));
    }

    private static void editNotBooked(Due due) {
        for (int state : new int[] {Scenes.IN, Scenes.DONE, Scenes.CANCELLED, Scenes.NO_SHOW}) {
            Untouched.by(due, "state " + state, 0, Scenes.inState(state),
                    x -> x.edit(1, 1, 1000, 1100));
            due.is("before -1", 0, Scenes.inState(state).edit(1, 1, 1100, 1000));
        }
    }

    private static void editAnothers(Due due) {
        for (int person : new int[] {0, 2, -1, 40, Scenes.LOWEST, Scenes.HIGHEST}) {
            Untouched.by(due, "person " + person, 0, Scenes.booked(),
                    x -> x.edit(1, person, 1000, 1100));
        }
        due.is("before -1", 0, Scenes.booked().edit(1, 2, 1100, 1000));
    }

    private static void editWithEquipment(Due due) {
        Calls x = Scenes.equipped();
        Untouched.by(due, "booked equipment", 0, x, y -> y.edit(1, 1, 300, 400));
        Untouched.by(due, "before -1", 0, x, y -> y.edit(1, 1, 400, 300));
        x.equip(1, 2);
        x.cancel(2, 1);
        Untouched.by(due, "one of two is cancelled", 0, x, y -> y.edit(1, 1, 300, 400));
        x.tick(90);
        x.checkIn(3, 1);
        Untouched.by(due, "equipment that is in", 0, x, y -> y.edit(1, 1, 300, 400));
    }

    private static void editWithoutLivingEquipment(Due due) {
        Calls x = Scenes.equipped();
        x.book(1, 3, 100, 200);
        due.is("another has none", 1, x.edit(3, 1, 300, 400));
        x.cancel(2, 1);
        due.is("cancelled equipment", 1, x.edit(1, 1, 300, 400));
        due.is("stays where it was", 100, x.fromOf(2));
        Calls done = Scenes.open();
        done.thing(0, 10, 100, 100000, 120);
        done.book(1, 5, 100, 150);
        done.equip(1, 0);
        done.tick(100);
        done.checkIn(2, 1);
        done.tick(149);
        Untouched.by(due, "equipment that is in", 0, done, y -> y.edit(1, 1, 300, 400));
        done.tick(150);
        due.is("is done", Scenes.DONE, done.stateOf(2));
        due.is("then it may be", 1, done.edit(1, 1, 300, 400));
    }

    private static void editEquipment(Due due) {
        Calls x = Scenes.equipped();
        Untouched.by(due, "booked", 0, x, y -> y.edit(2, 1, 300, 400));
        Untouched.by(due, "to its own times", 0, x, y -> y.edit(2, 1, 100, 200));
        Untouched.by(due, "before -1", 0, x, y -> y.edit(2, 1, 400, 300));
        x.cancel(2, 1);
        Untouched.by(due, "cancelled", 0, x, y -> y.edit(2, 1, 300, 400));
    }

    private static void editThatMayNotBe(Due due) {
        Calls x = Scenes.busy();
        x.book(9, 3, 1000, 1100);
        x.book(10, 3, 1100, 1200);
        Untouched.by(due, "-1", -1, x, y -> y.edit(10, 9, 500, 500));
        Untouched.by(due, "-2", -2, x, y -> y.edit(10, 9, 500, 509));
        Untouched.by(due, "-3, before NOW", -3, x, y -> y.edit(10, 9, 399, 450));
        Untouched.by(due, "-3, ahead", -3, x, y -> y.edit(10, 9, 100401, 100450));
        Untouched.by(due, "-4, a holiday", -4, x, y -> y.edit(10, 9, 2 * DAY, 2 * DAY + 10));
        Untouched.by(due, "-4, hours", -4, x,
                y -> y.edit(10, 9, 3 * DAY + 479, 3 * DAY + 500));
        Untouched.by(due, "-6", -6, x, y -> y.edit(10, 9, 1050, 1101));
        due.is("it may", 1, x.edit(10, 9, 1050, 1100));
    }

    private static void equipped(Due due) {
        Calls x = Scenes.booked();
        due.is("another thing", 2, x.equip(1, 1));
        due.is("and another", 3, x.equip(1, 3));
        due.is("it goes with it", 1, x.withOf(2));
        due.is("and so does that", 1, x.withOf(3));
        due.is("which goes with none", 0, x.withOf(1));
        due.is("which is still booked", Scenes.BOOKED, x.stateOf(1));
        x.book(2, 4, 100, 200);
        Untouched.by(due, "of another place", 0, x, y -> y.equip(4, 2));
        x.thing(1, 1, 1440, 0, 0);
        due.is("of the same place", 5, x.equip(4, 5));
    }

    private static void equipNotBooked(Due due) {
        for (int state : new int[] {Scenes.IN, Scenes.DONE, Scenes.CANCELLED, Scenes.NO_SHOW}) {
            Untouched.by(due, "state " + state, 0, Scenes.inState(state), x -> x.equip(1, 1));
        }
        Calls begun = Scenes.booked();
        begun.tick(120);
        due.is("one that has begun", 2, begun.equip(1, 1));
    }

    private static void samePersonAndTimes(Due due) {
        Calls x = Scenes.booked();
        x.edit(1, 1, 130, 270);
        x.equip(1, 2);
        int[] equipment = {1, 2, 130, 270, Scenes.BOOKED, 1};
        for (int what = 0; what <= 5; what++) {
            due.is("its " + what, equipment[what], x.booking(2, what));
        }
    }

    private static void whateverItsRules(Due due) {
        Calls x = Scenes.booked();
        x.thing(0, 101, 1440, 100000, 0);
        x.thing(0, 1, 99, 100000, 0);
        x.thing(0, 1, 1440, 0, 0);
        due.is("fewer minutes than its least", 2, x.equip(1, 5));
        due.is("more than its most", 3, x.equip(1, 6));
        due.is("further ahead than its rule", 4, x.equip(1, 7));
    }

    private static void howeverMany(Due due) {
        Calls x = Scenes.living(1, 5);
        due.is("a sixth", 6, x.equip(1, 0));
        due.is("a seventh", 7, x.equip(1, 1));
        due.is("an eighth", 8, x.equip(2, 0));
        due.is("the last of its list", 5, x.list(1, 7));
        due.is("but none by book", -5, x.book(1, 2, 100, 200));
    }

    /** Only -6 may refuse it: not that the person is barred, nor hours of now, nor a holiday. */
    private static void whateverElse(Due due) {
        Calls barred = Scenes.living(1, 4);
        barred.edit(4, 1, 5000, 5100);
        barred.tick(2000);
        due.is("barred", 1, barred.barred(1));
        due.is("a barred person's", 5, barred.equip(4, 0));
        Calls closed = Scenes.booked();
        closed.hours(0, 0, 0, 0);
        due.is("closed by now", 2, closed.equip(1, 1));
        closed.holiday(0);
        due.is("a holiday by now", 3, closed.equip(1, 2));
    }

    private static void equipmentsNumber(Due due) {
        Calls x = Scenes.busy();
        due.is("as bookings come", 10, x.equip(6, 3));
        Calls full = Scenes.filled(199);
        full.edit(1, 0, 1000, 1100);
        due.is("the 200th", 200, full.equip(1, 2));
    }

    private static void equipNone(Due due) {
        for (int booking : NO_BOOKINGS) {
            Untouched.by(due, "booking " + booking, 0, Scenes.busy(), x -> x.equip(booking, 3));
        }
    }

    private static void equipEquipment(Due due) {
        Calls x = Scenes.equipped();
        Untouched.by(due, "with another thing", 0, x, y -> y.equip(2, 2));
        Untouched.by(due, "with what it goes with", 0, x, y -> y.equip(2, 0));
        due.is("that goes with the booking", 3, x.equip(1, 2));
    }

    private static void equipWithWhat(Due due) {
        Calls x = Scenes.booked();
        Untouched.by(due, "the same", 0, x, y -> y.equip(1, 0));
        Untouched.by(due, "elsewhere", 0, x, y -> y.equip(1, 4));
        for (int thing : new int[] {-1, 5, 29, 30, Scenes.LOWEST, Scenes.HIGHEST}) {
            Untouched.by(due, "thing " + thing, 0, x, y -> y.equip(1, thing));
        }
        x.book(2, 4, 100, 200);
        Untouched.by(due, "elsewhere, before -6", 0, x, y -> y.equip(1, 4));
        due.is("the last that is there", 3, x.equip(1, 3));
    }

    private static void equipTwoHundred(Due due) {
        Calls x = Scenes.full();
        x.edit(1, 0, 1000, 1100);
        Untouched.by(due, "a 201st", 0, x, y -> y.equip(1, 1));
        Untouched.by(due, "a 201st, before -6", 0, x, y -> y.equip(6, 2));
    }

    private static void equipClash(Due due) {
        Calls x = Scenes.booked();
        x.book(2, 1, 199, 300);
        x.book(3, 2, 200, 300);
        x.book(3, 3, 50, 101);
        Untouched.by(due, "at its end", -6, x, y -> y.equip(1, 1));
        Untouched.by(due, "at its beginning", -6, x, y -> y.equip(1, 3));
        due.is("behind its end", 5, x.equip(1, 2));
        Untouched.by(due, "with its own equipment", -6, x, y -> y.equip(1, 2));
        x.cancel(2, 2);
        due.is("with a cancelled one", 6, x.equip(1, 1));
    }

    private static void wish(Due due) {
        Calls x = Scenes.booked();
        due.is("a minute before it", 1, x.wish(2, 0, 50, 101, 0));
        due.is("a minute of its end", 2, x.wish(2, 0, 199, 250, 0));
        due.is("by the person of the booking", 3, x.wish(1, 0, 100, 200, 0));
        due.is("the same again", 4, x.wish(1, 0, 100, 200, 0));
        due.is("it makes no booking", -1, x.personOf(2));
        due.is("it waits", 2, x.waiting(2));
        Calls full = Scenes.full();
        full.cancel(1, 0);
        due.is("though there are 200", 1, full.wish(0, 1, 100, 130, 0));
    }

    private static void wishOfAnyRank(Due due) {
        Calls x = Scenes.booked();
        int[] ranks = {0, 1, -1, Scenes.LOWEST, Scenes.HIGHEST};
        for (int i = 0; i < ranks.length; i++) {
            due.is("rank " + ranks[i], i + 1, x.wish(2, 0, 100, 200, ranks[i]));
        }
    }

    /** In all, not of one person or for one thing. */
    private static void howManyWait(Due due) {
        Calls x = Scenes.booked();
        x.book(1, 1, 100, 200);
        due.is("one", 1, x.wish(2, 0, 100, 200, 0));
        due.is("two of one person", 2, x.wish(2, 0, 100, 200, 0));
        due.is("another person's", 3, x.wish(3, 0, 100, 200, 0));
        due.is("for another thing", 4, x.wish(4, 1, 100, 200, 0));
        x.cancel(1, 1);
        due.is("one less, one more", 4, x.wish(4, 1, 100, 200, 0));
    }

    private static void wishOfNoPerson(Due due) {
        for (int person : new int[] {-1, 40, Scenes.LOWEST, Scenes.HIGHEST}) {
            Untouched.by(due, "person " + person, 0, Scenes.busy(),
                    x -> x.wish(person, 0, 600, 700, 0));
            due.is("before NONE", 0, Scenes.busy().wish(person, 0, 700, 600, 0));
        }
        due.is("person 0", 4, Scenes.busy().wish(0, 0, 600, 700, 0));
        due.is("person 39", 4, Scenes.busy().wish(39, 0, 600, 700, 0));
    }

    private static void wishForNoThing(Due due) {
        for (int thing : new int[] {-1, 5, 29, 30, Scenes.LOWEST, Scenes.HIGHEST}) {
            Untouched.by(due, "thing " + thing, 0, Scenes.busy(),
                    x -> x.wish(9, thing, 600, 700, 0));
            due.is("before NONE", 0, Scenes.busy().wish(9, thing, 700, 600, 0));
        }
        due.is("the first thing", 4, Scenes.busy().wish(9, 0, 600, 700, 0));
        due.is("the last thing", 4, Scenes.busy().wish(9, 4, 700, 800, 0));
    }

    private static void sixtyWait(Due due) {
        Calls x = Scenes.sixtyWait();
        Untouched.by(due, "a 61st", 0, x, y -> y.wish(35, 0, 100, 200, Scenes.LOWEST));
        Untouched.by(due, "that may be booked", 0, x, y -> y.wish(35, 0, 300, 400, 0));
        Untouched.by(due, "that may not be by another reason", 0, x,
                y -> y.wish(35, 0, 400, 300, 0));
        due.is("the last of them is booked first", 2, x.cancel(1, 1));
        due.is("it", 31, x.personOf(2));
        due.is("a 60th again", 60, x.wish(35, 0, 100, 200, 0));
    }

    private static void wishThatMayBe(Due due) {
        Untouched.by(due, "of a free thing", -1, Scenes.booked(), x -> x.wish(2, 1, 100, 200, 0));
        Untouched.by(due, "behind the other", -1, Scenes.booked(),
                x -> x.wish(2, 0, 200, 250, 0));
        Untouched.by(due, "before the other", -1, Scenes.booked(),
                x -> x.wish(2, 0, 50, 100, 0));
        Untouched.by(due, "over a cancelled one", -1, Scenes.inState(Scenes.CANCELLED),
                x -> x.wish(2, 0, 100, 200, 0));
    }

    /** Each would clash, too; the order of reasons has more of these. */
    private static void wishThatMayNotBe(Due due) {
        Calls x = Scenes.busy();
        Untouched.by(due, "-1", -1, x, y -> y.wish(9, 1, 600, 600, 0));
        Untouched.by(due, "-2", -1, x, y -> y.wish(9, 1, 600, 609, 0));
        Untouched.by(due, "-3", -1, x, y -> y.wish(9, 1, 399, 500, 0));
        Untouched.by(due, "-4", -1, x, y -> y.wish(9, 1, 800, 1441, 0));
        Untouched.by(due, "-5, barred", -1, x, y -> y.wish(7, 1, 600, 700, 0));
        Untouched.by(due, "-5, five", -1, Scenes.living(1, 5),
                y -> y.wish(1, 3, 1000, 1010, 0));
        due.is("-6", 4, x.wish(9, 1, 600, 700, 0));
    }
}
