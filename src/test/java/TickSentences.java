/** Promise 12: tick. */
final class TickSentences {
    private TickSentences() {
    }

    static void say(Sentences s) {
        s.say("NOW is later:", TickSentences::later);
        s.say("how many NO-SHOWS there were by that:", TickSentences::howMany,
                TickSentences::allTwoHundred);
        s.say("those BOOKED whose beginning and GRACE are below it,",
                TickSentences::endOfGrace, TickSentences::onlyBookedOnes);
        s.say("by their numbers,", TickSentences::byNumbers);
        s.say("EQUIPMENT that is BOOKED with what it goes with (it is none of its own);",
                TickSentences::equipmentWithIt, TickSentences::equipmentNotByItself,
                TickSentences::onlyBookedEquipment);
        s.say("each counts for its person (that may be BARRED by it),",
                TickSentences::countsForItsPerson, TickSentences::barredBeforeItsThingIsFree);
        s.say("then frees its thing and its EQUIPMENT's at once, as in cancel.",
                TickSentences::freesItsThing, TickSentences::freesItsEquipments,
                TickSentences::freesAllOfItFirst, TickSentences::freesOneAfterTheOther,
                TickSentences::whatIsBookedByItIsNoNoShow, TickSentences::noneWhenFull);
        s.say("Before that those IN whose end is not above NOW are DONE.",
                TickSentences::doneAtItsEnd, TickSentences::onlyThoseIn,
                TickSentences::doneBeforeNoShows);
        s.say("NONE, and nothing happens, if it is not later,", TickSentences::notLater);
        s.say("or above 1000000.", TickSentences::aboveTheLastTime);
    }

    private static void later(Due due) {
        Calls x = Scenes.open();
        due.is("by a minute", 0, x.tick(1));
        due.is("before that", -3, x.book(1, 0, 0, 10));
        due.is("from that on", 1, x.book(1, 0, 1, 11));
        due.is("by far", 1, x.tick(999980));
        due.is("a minute before that", -3, x.book(1, 0, 999979, 1000000));
        due.is("from that on", 2, x.book(1, 0, 999980, 1000000));
        due.is("to the last time", 0, x.tick(1000000));
    }

    private static void howMany(Due due) {
        for (int many = 0; many <= 5; many++) {
            Calls x = Scenes.living(1, many);
            due.is(many + " of one person", many, x.tick(2000));
            due.is("counted", many, x.noShows(1));
            due.is("once", 0, x.tick(3000));
        }
        Calls x = Scenes.living(1, 5);
        x.book(2, 0, 1000, 1010);
        due.is("some of two persons", 3, x.tick(1035));
        due.is("the rest of them", 3, x.tick(1061));
    }

    private static void allTwoHundred(Due due) {
        Calls x = Scenes.full();
        due.is("all at once", 200, x.tick(1000000));
        due.is("of the first person", 5, x.noShows(0));
        due.is("of the last person", 5, x.noShows(39));
        due.is("the first", Scenes.NO_SHOW, x.stateOf(1));
        due.is("the last", Scenes.NO_SHOW, x.stateOf(200));
    }

    private static void endOfGrace(Due due) {
        for (int grace : new int[] {0, 1, 119, 120}) {
            Calls x = Scenes.open();
            x.thing(0, 10, 100, 100000, grace);
            x.book(1, 5, 100, 110);
            due.is("at the end of " + grace, 0, x.tick(100 + grace));
            due.is("booked", Scenes.BOOKED, x.stateOf(1));
            due.is("a minute behind it", 1, x.tick(101 + grace));
            due.is("no-show", Scenes.NO_SHOW, x.stateOf(1));
        }
    }

    private static void onlyBookedOnes(Due due) {
        for (int state : new int[] {Scenes.IN, Scenes.DONE, Scenes.CANCELLED, Scenes.NO_SHOW}) {
            Calls x = Scenes.inState(state);
            due.is("in state " + state, 0, x.tick(5000));
            due.is("its state", state == Scenes.IN ? Scenes.DONE : state, x.stateOf(1));
            due.is("no-shows", state == Scenes.NO_SHOW ? 1 : 0, x.noShows(1));
        }
    }

    /** The second began earlier, but what the first frees is booked first. */
    private static void byNumbers(Due due) {
        Calls x = Scenes.open();
        x.book(1, 2, 110, 900);
        x.book(1, 1, 100, 900);
        x.book(2, 0, 90, 900);
        x.wish(10, 0, 300, 400, -1);
        x.wish(11, 1, 300, 400, -2);
        x.wish(12, 2, 300, 400, -3);
        x.wish(13, 2, 500, 600, -4);
        due.is("three", 3, x.tick(200));
        int[] order = {13, 12, 11, 10};
        for (int i = 0; i < order.length; i++) {
            due.is("in the place " + i, order[i], x.personOf(4 + i));
        }
        Calls fifth = Scenes.living(1, 4);
        fifth.book(2, 2, 110, 900);
        fifth.book(2, 0, 100, 900);
        fifth.wish(1, 0, 300, 400, 0);
        fifth.wish(1, 2, 300, 400, 9);
        due.is("two", 2, fifth.tick(200));
        due.is("as a fifth, by the first of them", 2, fifth.thingOf(7));
        due.is("the other wish stays", 1, fifth.waiting(1));
    }

    private static void equipmentWithIt(Due due) {
        Calls x = Scenes.equipped();
        x.thing(0, 10, 1440, 100000, 120);
        x.equip(1, 5);
        due.is("one, with two", 1, x.tick(121));
        due.is("it", Scenes.NO_SHOW, x.stateOf(1));
        due.is("its equipment", Scenes.NO_SHOW, x.stateOf(2));
        due.is("that of a longer grace", Scenes.NO_SHOW, x.stateOf(3));
        due.is("none of its own", 1, x.noShows(1));
        due.is("none later", 0, x.tick(1000));
    }

    private static void equipmentNotByItself(Due due) {
        Calls x = Scenes.open();
        x.thing(0, 10, 100, 100000, 120);
        x.book(1, 5, 100, 200);
        x.equip(1, 0);
        due.is("its own grace is over", 0, x.tick(121));
        due.is("booked", Scenes.BOOKED, x.stateOf(2));
        due.is("its end is over", 0, x.tick(220));
        due.is("booked", Scenes.BOOKED, x.stateOf(2));
        due.is("with what it goes with", 1, x.tick(221));
        due.is("no-show", Scenes.NO_SHOW, x.stateOf(2));
    }

    private static void onlyBookedEquipment(Due due) {
        Calls x = Scenes.equipped();
        x.equip(1, 2);
        x.equip(1, 3);
        x.cancel(2, 1);
        x.tick(90);
        x.checkIn(3, 1);
        due.is("one", 1, x.tick(121));
        due.is("cancelled equipment", Scenes.CANCELLED, x.stateOf(2));
        due.is("equipment that is in", Scenes.IN, x.stateOf(3));
        due.is("equipment that was booked", Scenes.NO_SHOW, x.stateOf(4));
        due.is("what is in still takes its thing", -6, x.book(2, 2, 150, 200));
        due.is("none", 0, x.tick(200));
        due.is("it is done by itself", Scenes.DONE, x.stateOf(3));
    }

    private static void countsForItsPerson(Due due) {
        Calls x = Scenes.living(1, 3);
        x.book(2, 0, 1000, 1100);
        due.is("two persons'", 4, x.tick(1041));
        due.is("of the first", 3, x.noShows(1));
        due.is("barred", 1, x.barred(1));
        due.is("of the second", 1, x.noShows(2));
        due.is("not barred", 0, x.barred(2));
        due.is("of another", 0, x.noShows(3));
    }

    private static void barredBeforeItsThingIsFree(Due due) {
        Calls x = Scenes.open();
        for (int thing = 0; thing < 3; thing++) {
            x.book(1, thing, 100, 900);
            x.wish(1, thing, 300, 400, 0);
        }
        due.is("three", 3, x.tick(150));
        due.is("by the first a wish", 0, x.thingOf(4));
        due.is("by the second a wish", 1, x.thingOf(5));
        due.is("by the third none", -1, x.thingOf(6));
        due.is("it stays", 1, x.waiting(1));
    }

    private static void freesItsThing(Due due) {
        Calls x = Scenes.booked();
        x.book(2, 1, 100, 200);
        x.wish(3, 0, 121, 160, 5);
        x.wish(4, 0, 159, 170, 4);
        x.wish(5, 0, 120, 130, 3);
        x.wish(6, 0, 121, 159, 6);
        x.tick(100);
        x.checkIn(2, 2);
        x.wish(7, 1, 150, 200, 0);
        due.is("one", 1, x.tick(121));
        due.is("the least rank that may be", 4, x.personOf(3));
        due.is("then what does not clash", 6, x.personOf(4));
        due.is("no more", -1, x.personOf(5));
        due.is("would clash: stays", 1, x.waiting(3));
        due.is("before NOW: stays", 1, x.waiting(5));
        due.is("of another thing: stays", 1, x.waiting(7));
        due.is("what is left may be booked", 5, x.book(8, 0, 170, 200));
    }

    private static void freesItsEquipments(Due due) {
        Calls x = Scenes.open();
        x.book(1, 2, 100, 400);
        x.equip(1, 3);
        x.equip(1, 0);
        x.wish(10, 0, 200, 300, -5);
        x.wish(11, 3, 200, 300, 5);
        x.wish(12, 2, 200, 300, 9);
        due.is("one", 1, x.tick(121));
        due.is("its thing's first", 12, x.personOf(4));
        due.is("then its equipment's by numbers", 11, x.personOf(5));
        due.is("then its equipment's by numbers", 10, x.personOf(6));
    }

    private static void freesAllOfItFirst(Due due) {
        Calls x = Scenes.sixWithEquipment();
        due.is("one", 1, x.tick(121));
        due.is("its wish is booked", 1, x.personOf(8));
    }

    /** Each frees its thing before the next is a no-show, so the next still counts as living. */
    private static void freesOneAfterTheOther(Due due) {
        Calls x = Scenes.open();
        x.book(2, 0, 100, 900);
        x.book(1, 3, 100, 110);
        x.book(1, 3, 110, 120);
        withWishAndThreeLater(x);
        due.is("three", 3, x.tick(200));
        due.is("five lived when the first was seen", 1, x.waiting(1));
        Calls y = Scenes.open();
        y.book(1, 3, 100, 110);
        y.book(1, 3, 110, 120);
        y.book(2, 0, 100, 900);
        withWishAndThreeLater(y);
        due.is("three", 3, y.tick(200));
        due.is("three lived when the last was seen", 0, y.waiting(1));
    }

    private static void withWishAndThreeLater(Calls x) {
        x.book(1, 3, 500, 600);
        x.book(1, 3, 600, 700);
        x.wish(1, 0, 300, 400, 0);
        x.book(1, 3, 700, 800);
    }

    private static void whatIsBookedByItIsNoNoShow(Due due) {
        Calls x = Scenes.open();
        x.thing(0, 10, 1440, 100000, 0);
        x.book(1, 5, 100, 200);
        x.wish(2, 5, 101, 150, 0);
        due.is("one", 1, x.tick(101));
        due.is("booked from NOW on", 2, x.personOf(2));
        due.is("state", Scenes.BOOKED, x.stateOf(2));
        due.is("no-shows", 0, x.noShows(2));
        due.is("a minute later", 1, x.tick(102));
        due.is("no-shows", 1, x.noShows(2));
    }

    private static void noneWhenFull(Due due) {
        Calls x = Scenes.full();
        x.cancel(2, 0);
        x.wish(0, 1, 121, 131, 0);
        due.is("the first ones of four things", 4, x.tick(121));
        due.is("there are 200", 1, x.waiting(0));
    }

    private static void doneAtItsEnd(Due due) {
        Calls x = Scenes.equipped();
        x.tick(100);
        x.checkIn(1, 1);
        due.is("a minute before its end", 0, x.tick(199));
        due.is("in", Scenes.IN, x.stateOf(1));
        due.is("equipment", Scenes.IN, x.stateOf(2));
        due.is("at its end", 0, x.tick(200));
        due.is("done", Scenes.DONE, x.stateOf(1));
        due.is("equipment", Scenes.DONE, x.stateOf(2));
        Calls far = Scenes.inState(Scenes.IN);
        due.is("far behind its end", 0, far.tick(1000000));
        due.is("done", Scenes.DONE, far.stateOf(1));
    }

    private static void onlyThoseIn(Due due) {
        Calls x = Scenes.open();
        x.thing(0, 10, 100, 100000, 120);
        x.book(1, 5, 100, 110);
        x.book(1, 0, 100, 110);
        x.book(1, 0, 300, 400);
        x.cancel(3, 1);
        due.is("one", 1, x.tick(150));
        due.is("booked, behind its end", Scenes.BOOKED, x.stateOf(1));
        due.is("no-show", Scenes.NO_SHOW, x.stateOf(2));
        x.tick(400);
        due.is("cancelled", Scenes.CANCELLED, x.stateOf(3));
    }

    /** One of five is in and ends, so the wish of its person may be when another frees a thing. */
    private static void doneBeforeNoShows(Due due) {
        Calls x = Scenes.open();
        x.book(2, 0, 100, 900);
        for (int i = 0; i < 4; i++) {
            x.book(1, 3, 500 + i * 10, 510 + i * 10);
        }
        x.wish(1, 0, 300, 400, 0);
        x.book(1, 1, 100, 150);
        x.tick(100);
        x.checkIn(6, 1);
        x.tick(120);
        due.is("five live", -5, x.book(1, 2, 300, 400));
        due.is("one", 1, x.tick(150));
        due.is("done", Scenes.DONE, x.stateOf(6));
        due.is("the wish is booked", 1, x.personOf(7));
        due.is("none waits", 0, x.waiting(1));
    }

    private static void notLater(Due due) {
        Untouched.by(due, "0 at first", -1, Scenes.booked(), x -> x.tick(0));
        Untouched.by(due, "-1 at first", -1, Scenes.booked(), x -> x.tick(-1));
        Calls x = Scenes.busy();
        for (int t : new int[] {400, 399, 1, 0, -1, Scenes.LOWEST}) {
            Untouched.by(due, "to " + t, -1, x, y -> y.tick(t));
        }
        due.is("to 401", 0, x.tick(401));
    }

    private static void aboveTheLastTime(Due due) {
        Calls x = Scenes.busy();
        x.wish(2, 1, 850, 950, 0);
        for (int t : new int[] {1000001, 1000400, Scenes.HIGHEST}) {
            Untouched.by(due, "to " + t, -1, x, y -> y.tick(t));
        }
        due.is("to the last time", 2, x.tick(1000000));
        Untouched.by(due, "and no more", -1, x, y -> y.tick(1000000));
        Untouched.by(due, "behind it", -1, x, y -> y.tick(1000001));
    }
}
