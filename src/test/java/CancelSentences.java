/** Promises 7 and 8: cancel, checkIn. */
final class CancelSentences {
    private static final int[] NO_BOOKINGS = {-1, 0, 10, 200, 201, Scenes.LOWEST, Scenes.HIGHEST};

    private CancelSentences() {
    }

    static void say(Sentences s) {
        s.say("A booking is CANCELLED by its person:", CancelSentences::cancelled);
        s.say("1 and how many wishes were booked by that;", CancelSentences::howManyWishes);
        s.say("0 if there is none such,", CancelSentences::cancelNone);
        s.say("it is not BOOKED,", CancelSentences::cancelNotBooked);
        s.say("or it is another person's;", CancelSentences::cancelAnothers);
        s.say("-1 if it has begun (NOW is not below its beginning).", CancelSentences::begun,
                CancelSentences::begunAtOnce);
        s.say("What EQUIPMENT that is BOOKED goes with it is CANCELLED, too;",
                CancelSentences::equipmentGoesToo, CancelSentences::onlyBookedEquipment);
        s.say("then wishes are booked, those for its thing first, then for the EQUIPMENT's,"
                + " by numbers.", CancelSentences::afterAllIsCancelled,
                CancelSentences::wishesByNumbers, CancelSentences::noWishesOfEarlierEquipment);
        s.say("EQUIPMENT may be cancelled, and checked in, by itself.",
                CancelSentences::equipmentCancelled, CancelSentences::equipmentCheckedIn);

        s.say("Its person checks in: 1;", CancelSentences::checkedIn);
        s.say("0 as in cancel;", CancelSentences::checkInNone, CancelSentences::checkInNotBooked,
                CancelSentences::checkInAnothers);
        s.say("-1 if it is earlier than 15 minutes before the beginning,",
                CancelSentences::tooEarly, CancelSentences::earlyAtFirst);
        s.say("or later than its thing's GRACE behind it.", CancelSentences::endOfGrace,
                CancelSentences::tooLate);
        s.say("EQUIPMENT that is BOOKED and goes with it is IN, too.",
                CancelSentences::equipmentIsInToo, CancelSentences::onlyBookedEquipmentIsIn);
    }

    private static void cancelled(Due due) {
        Calls x = Scenes.booked();
        x.book(1, 0, 300, 400);
        due.is("by its person", 1, x.cancel(1, 1));
        due.is("state", Scenes.CANCELLED, x.stateOf(1));
        due.is("from", 100, x.fromOf(1));
        due.is("another one of it", Scenes.BOOKED, x.stateOf(2));
        due.is("its list", 2, x.list(1, 0));
        due.is("no no-show", 0, x.noShows(1));
        due.is("its thing is free", 3, x.book(2, 0, 100, 200));
    }

    private static void howManyWishes(Due due) {
        for (int wishes = 0; wishes <= 5; wishes++) {
            Calls x = Scenes.booked();
            for (int i = 0; i < wishes; i++) {
                x.wish(2, 0, 100 + i * 10, 110 + i * 10, 0);
            }
            due.is(wishes + " wishes", 1 + wishes, x.cancel(1, 1));
            due.is("are booked", wishes == 0 ? 0 : 1 + wishes, x.list(2, wishes - 1));
            due.is("and no more", 0, x.list(2, wishes));
        }
        Calls sixty = Scenes.open();
        sixty.book(1, 0, 100, 1300);
        for (int i = 0; i < 60; i++) {
            sixty.wish(2 + i / 5, 0, 100 + i * 20, 120 + i * 20, 0);
        }
        due.is("60 wishes", 61, sixty.cancel(1, 1));
        due.is("the last", 13, sixty.personOf(61));
    }

    private static void cancelNone(Due due) {
        for (int booking : NO_BOOKINGS) {
            Untouched.by(due, "booking " + booking, 0, Scenes.busy(),
                    x -> x.cancel(booking, 1));
        }
        Untouched.by(due, "booking 0 of person 0", 0, Scenes.busy(), x -> x.cancel(0, 0));
    }

    private static void cancelNotBooked(Due due) {
        for (int state : new int[] {Scenes.IN, Scenes.DONE, Scenes.CANCELLED, Scenes.NO_SHOW}) {
            Untouched.by(due, "state " + state, 0, Scenes.inState(state), x -> x.cancel(1, 1));
        }
        Calls again = Scenes.booked();
        again.wish(2, 0, 100, 200, 0);
        again.cancel(1, 1);
        again.wish(3, 0, 100, 200, 0);
        again.edit(2, 2, 300, 400);
        Untouched.by(due, "again, though a wish may be", 0, again, x -> x.cancel(1, 1));
    }

    private static void cancelAnothers(Due due) {
        for (int person : new int[] {0, 2, -1, 40, Scenes.LOWEST, Scenes.HIGHEST}) {
            Untouched.by(due, "person " + person, 0, Scenes.equipped(),
                    x -> x.cancel(1, person));
        }
        Calls begun = Scenes.booked();
        begun.tick(100);
        Untouched.by(due, "another's, before that it has begun", 0, begun, x -> x.cancel(1, 2));
    }

    private static void begun(Due due) {
        Calls x = Scenes.equipped();
        x.wish(2, 0, 150, 200, 0);
        x.tick(99);
        due.is("a minute before", 2, x.again().cancel(1, 1));
        x.tick(100);
        Untouched.by(due, "at its beginning", -1, x, y -> y.cancel(1, 1));
        Untouched.by(due, "equipment at its beginning", -1, x, y -> y.cancel(2, 1));
        x.tick(120);
        Untouched.by(due, "later", -1, x, y -> y.cancel(1, 1));
    }

    private static void begunAtOnce(Due due) {
        Calls x = Scenes.open();
        x.book(1, 0, 0, 10);
        Untouched.by(due, "from 0 on", -1, x, y -> y.cancel(1, 1));
        x.book(1, 1, 1, 11);
        due.is("from 1 on", 1, x.cancel(2, 1));
    }

    private static void equipmentGoesToo(Due due) {
        Calls x = Scenes.equipped();
        x.equip(1, 2);
        x.book(1, 3, 100, 200);
        x.book(1, 0, 300, 400);
        x.equip(5, 1);
        due.is("cancel", 1, x.cancel(1, 1));
        due.is("equipment", Scenes.CANCELLED, x.stateOf(2));
        due.is("more equipment", Scenes.CANCELLED, x.stateOf(3));
        due.is("it still says with which it went", 1, x.withOf(2));
        due.is("another booking", Scenes.BOOKED, x.stateOf(4));
        due.is("another's equipment", Scenes.BOOKED, x.stateOf(6));
        due.is("its thing is free", 7, x.book(2, 1, 100, 200));
    }

    private static void onlyBookedEquipment(Due due) {
        Calls x = Scenes.equipped();
        x.equip(1, 2);
        x.tick(90);
        x.checkIn(2, 1);
        due.is("cancel", 1, x.cancel(1, 1));
        due.is("equipment that is in", Scenes.IN, x.stateOf(2));
        due.is("equipment that is booked", Scenes.CANCELLED, x.stateOf(3));
        due.is("what is in still takes its thing", -6, x.book(2, 1, 100, 200));
    }

    private static void afterAllIsCancelled(Due due) {
        Calls x = Scenes.sixWithEquipment();
        due.is("its wish is booked", 2, x.cancel(1, 1));
        due.is("as its fourth", 1, x.personOf(8));
    }

    /** Thing 2 with things 3, 0 and 1 as its equipment, bookings 2 to 4, and wishes for all. */
    private static void wishesByNumbers(Due due) {
        Calls x = Scenes.open();
        x.book(1, 2, 100, 200);
        x.equip(1, 3);
        x.equip(1, 0);
        x.equip(1, 1);
        x.wish(10, 0, 100, 200, -5);
        x.wish(11, 1, 100, 150, -6);
        x.wish(12, 3, 150, 200, 8);
        x.wish(13, 3, 100, 150, 7);
        x.wish(14, 2, 100, 200, 9);
        x.wish(15, 1, 150, 200, -7);
        due.is("all are booked", 7, x.cancel(1, 1));
        int[] order = {14, 13, 12, 10, 15, 11};
        for (int i = 0; i < order.length; i++) {
            due.is("in the place " + i, order[i], x.personOf(5 + i));
        }
    }

    private static void noWishesOfEarlierEquipment(Due due) {
        Calls x = Scenes.equipped();
        x.cancel(2, 1);
        x.book(2, 1, 300, 400);
        x.wish(3, 1, 300, 400, 0);
        x.edit(3, 2, 500, 600);
        due.is("none is booked", 1, x.cancel(1, 1));
        due.is("it stays", 1, x.waiting(3));
    }

    private static void equipmentCancelled(Due due) {
        Calls x = Scenes.equipped();
        x.equip(1, 2);
        x.wish(2, 1, 100, 200, 0);
        x.wish(3, 0, 100, 200, 0);
        x.wish(4, 2, 100, 200, 0);
        due.is("its thing's wish is booked", 2, x.cancel(2, 1));
        due.is("it", 2, x.personOf(4));
        due.is("cancelled", Scenes.CANCELLED, x.stateOf(2));
        due.is("what it goes with", Scenes.BOOKED, x.stateOf(1));
        due.is("other equipment", Scenes.BOOKED, x.stateOf(3));
        due.is("another thing's wish", 1, x.waiting(3));
        due.is("other equipment's wish", 1, x.waiting(4));
        Untouched.by(due, "by another person", 0, Scenes.equipped(), y -> y.cancel(2, 2));
    }

    private static void equipmentCheckedIn(Due due) {
        Calls x = Scenes.equipped();
        x.equip(1, 2);
        x.tick(84);
        Untouched.by(due, "too early", -1, x, y -> y.checkIn(2, 1));
        x.tick(85);
        Untouched.by(due, "by another person", 0, x, y -> y.checkIn(2, 2));
        due.is("by its person", 1, x.checkIn(2, 1));
        due.is("in", Scenes.IN, x.stateOf(2));
        due.is("what it goes with", Scenes.BOOKED, x.stateOf(1));
        due.is("other equipment", Scenes.BOOKED, x.stateOf(3));
    }

    private static void checkedIn(Due due) {
        Calls x = Scenes.booked();
        x.book(2, 1, 100, 200);
        x.tick(100);
        due.is("at its beginning", 1, x.checkIn(1, 1));
        due.is("in", Scenes.IN, x.stateOf(1));
        due.is("another one", Scenes.BOOKED, x.stateOf(2));
        due.is("no no-show by a tick", 1, x.tick(150));
        due.is("in", Scenes.IN, x.stateOf(1));
    }

    private static void checkInNone(Due due) {
        for (int booking : NO_BOOKINGS) {
            Untouched.by(due, "booking " + booking, 0, Scenes.busy(),
                    x -> x.checkIn(booking, 1));
        }
        Untouched.by(due, "booking 0 of person 0", 0, Scenes.open(), x -> x.checkIn(0, 0));
    }

    private static void checkInNotBooked(Due due) {
        for (int state : new int[] {Scenes.IN, Scenes.DONE, Scenes.CANCELLED, Scenes.NO_SHOW}) {
            Untouched.by(due, "state " + state, 0, Scenes.inState(state), x -> x.checkIn(1, 1));
        }
        Calls cancelled = Scenes.inState(Scenes.CANCELLED);
        cancelled.tick(100);
        Untouched.by(due, "cancelled, at its beginning", 0, cancelled, x -> x.checkIn(1, 1));
    }

    private static void checkInAnothers(Due due) {
        Calls x = Scenes.equipped();
        Untouched.by(due, "another's, before that it is too early", 0, x, y -> y.checkIn(1, 2));
        x.tick(100);
        for (int person : new int[] {0, 2, -1, 40, Scenes.LOWEST, Scenes.HIGHEST}) {
            Untouched.by(due, "person " + person, 0, x, y -> y.checkIn(1, person));
        }
    }

    private static void tooEarly(Due due) {
        Calls x = Scenes.equipped();
        Untouched.by(due, "at 0", -1, x, y -> y.checkIn(1, 1));
        x.tick(84);
        Untouched.by(due, "16 minutes before", -1, x, y -> y.checkIn(1, 1));
        x.tick(85);
        due.is("15 minutes before", 1, x.checkIn(1, 1));
        due.is("in", Scenes.IN, x.stateOf(1));
    }

    private static void earlyAtFirst(Due due) {
        Calls x = Scenes.open();
        x.book(1, 0, 16, 26);
        x.book(1, 1, 15, 25);
        x.book(1, 2, 0, 10);
        Untouched.by(due, "16 minutes before", -1, x, y -> y.checkIn(1, 1));
        due.is("15 minutes before", 1, x.checkIn(2, 1));
        due.is("at 0", 1, x.checkIn(3, 1));
    }

    private static void endOfGrace(Due due) {
        for (int grace : new int[] {0, 1, 119, 120}) {
            Calls x = Scenes.open();
            x.thing(0, 10, 100, 100000, grace);
            x.book(1, 5, 100, 110);
            x.tick(100 + grace);
            due.is("at the end of " + grace, 1, x.again().checkIn(1, 1));
            x.tick(101 + grace);
            Untouched.by(due, "behind it, a no-show", 0, x, y -> y.checkIn(1, 1));
        }
    }

    /** Only equipment is still booked when the grace of its own thing is over. */
    private static void tooLate(Due due) {
        Calls x = Scenes.open();
        x.thing(0, 10, 100, 100000, 120);
        x.book(1, 5, 100, 200);
        x.equip(1, 0);
        x.tick(120);
        due.is("at the end of its grace", 1, x.again().checkIn(2, 1));
        x.tick(121);
        Untouched.by(due, "a minute later", -1, x, y -> y.checkIn(2, 1));
        due.is("still booked", Scenes.BOOKED, x.stateOf(2));
        x.tick(220);
        Untouched.by(due, "far later", -1, x, y -> y.checkIn(2, 1));
        due.is("what it goes with", 1, x.checkIn(1, 1));
        due.is("and it with that", Scenes.IN, x.stateOf(2));
    }

    private static void equipmentIsInToo(Due due) {
        Calls x = Scenes.equipped();
        x.equip(1, 2);
        x.book(1, 3, 100, 200);
        x.book(2, 0, 300, 400);
        x.equip(5, 1);
        x.tick(85);
        due.is("check in", 1, x.checkIn(1, 1));
        due.is("equipment", Scenes.IN, x.stateOf(2));
        due.is("more equipment", Scenes.IN, x.stateOf(3));
        due.is("another booking", Scenes.BOOKED, x.stateOf(4));
        due.is("another's equipment", Scenes.BOOKED, x.stateOf(6));
    }

    private static void onlyBookedEquipmentIsIn(Due due) {
        Calls x = Scenes.equipped();
        x.equip(1, 2);
        x.cancel(2, 1);
        x.tick(90);
        x.checkIn(3, 1);
        due.is("check in", 1, x.checkIn(1, 1));
        due.is("cancelled equipment", Scenes.CANCELLED, x.stateOf(2));
        due.is("equipment that was in", Scenes.IN, x.stateOf(3));
    }
}
