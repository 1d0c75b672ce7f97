/** What waits, when it is booked, and the constant. */
final class WaitingSentences {
    private static final int DAY = Scenes.DAY;

    private WaitingSentences() {
    }

    static void say(Sentences s) {
        s.say("WAITING are at most 60 wishes:", WaitingSentences::atMostSixty);
        s.say("a person, a thing, from and to, a RANK.", WaitingSentences::whatAWishIs);
        s.say("When a booking is cancelled, or becomes a NO-SHOW, the wishes for that thing"
                + " that may be by now are made BOOKINGS,", WaitingSentences::whenCancelled,
                WaitingSentences::whenNoShow, WaitingSentences::forThatThing,
                WaitingSentences::notByWhatElseFrees);
        s.say("those of the least RANK first, of one RANK as they came,",
                WaitingSentences::leastRankFirst, WaitingSentences::asTheyCame);
        s.say("each as it may be then;", WaitingSentences::notOverEachOther,
                WaitingSentences::fiveAtMost, WaitingSentences::notBarred,
                WaitingSentences::inHoursOfNow, WaitingSentences::notBeforeNow,
                WaitingSentences::notWhenFull);
        s.say("they wait no more.", WaitingSentences::waitNoMore);
        s.say("Others stay.", WaitingSentences::othersStay);
        s.say("The constants: `NONE = -1`: None such.", WaitingSentences::none);
    }

    private static void atMostSixty(Due due) {
        Calls empty = Scenes.booked();
        due.is("none wait", 1, empty.cancel(1, 1));
        Calls x = Scenes.booked();
        for (int i = 1; i <= 60; i++) {
            due.is("one more", i, x.wish(2 + i % 3, 0, 100, 200, 0));
        }
        Untouched.by(due, "a 61st", 0, x, y -> y.wish(2, 0, 100, 200, 0));
        Untouched.by(due, "a 61st for another person", 0, x, y -> y.wish(9, 0, 100, 200, 0));
        due.is("wait of the first", 20, x.waiting(2));
        due.is("wait of the second", 20, x.waiting(3));
        due.is("wait of the third", 20, x.waiting(4));
        due.is("one is booked", 2, x.cancel(1, 1));
        due.is("a 60th again", 60, x.wish(2, 0, 100, 200, 0));
        due.is("a 61st again", 0, x.wish(2, 0, 100, 200, 0));
    }

    private static void whatAWishIs(Due due) {
        Calls x = Scenes.booked();
        x.wish(39, 0, 0, 101, 7);
        x.wish(0, 0, 101, 1440, 8);
        due.is("both booked", 3, x.cancel(1, 1));
        int[] first = {39, 0, 0, 101, Scenes.BOOKED, 0};
        int[] second = {0, 0, 101, 1440, Scenes.BOOKED, 0};
        for (int what = 0; what <= 5; what++) {
            due.is("the first's " + what, first[what], x.booking(2, what));
            due.is("the second's " + what, second[what], x.booking(3, what));
        }
    }

    private static void whenCancelled(Due due) {
        Calls x = Scenes.booked();
        x.wish(2, 0, 150, 250, 0);
        due.is("not yet", -1, x.personOf(2));
        due.is("one wish", 2, x.cancel(1, 1));
        due.is("is booked", 2, x.personOf(2));
    }

    private static void whenNoShow(Due due) {
        Calls x = Scenes.booked();
        x.wish(2, 0, 150, 250, 0);
        due.is("at the end of grace", 0, x.tick(120));
        due.is("not yet", -1, x.personOf(2));
        due.is("behind it", 1, x.tick(121));
        due.is("is booked", 2, x.personOf(2));
    }

    private static void forThatThing(Due due) {
        Calls x = Scenes.booked();
        x.book(2, 1, 100, 200);
        x.book(3, 2, 100, 110);
        x.wish(4, 1, 100, 200, 0);
        x.book(6, 2, 130, 200);
        x.wish(5, 2, 130, 200, 0);
        x.edit(4, 6, 300, 400);
        due.is("a wish for another thing is not booked", 1, x.cancel(1, 1));
        due.is("not that which would clash", 1, x.waiting(4));
        due.is("nor that which would not", 1, x.waiting(5));
        due.is("but when that thing is freed", 2, x.cancel(3, 3));
        due.is("whatever times of it were freed", 5, x.personOf(5));
    }

    /** An edit and an end leave the thing free, and yet book no wish. */
    private static void notByWhatElseFrees(Due due) {
        Calls edited = Scenes.booked();
        edited.wish(2, 0, 100, 200, 0);
        edited.edit(1, 1, 300, 400);
        due.is("by an edit", 1, edited.waiting(2));
        Calls done = Scenes.booked();
        done.wish(2, 0, 150, 500, 0);
        done.tick(100);
        done.checkIn(1, 1);
        done.tick(140);
        due.is("by a check-in", 1, done.waiting(2));
        done.tick(200);
        due.is("by an end", 1, done.waiting(2));
    }

    private static void leastRankFirst(Due due) {
        int[] ranks = {3, Scenes.HIGHEST, 0, -1, Scenes.LOWEST, 1, Scenes.HIGHEST - 1,
            Scenes.LOWEST + 1};
        int[] order = {4, 7, 3, 2, 5, 0, 6, 1};
        Calls x = Scenes.open();
        x.book(1, 0, 10, 1440);
        for (int i = 0; i < ranks.length; i++) {
            due.is("waits", i + 1, x.wish(10 + i, 0, 10 + i * 10, 20 + i * 10, ranks[i]));
        }
        x.edit(1, 1, 1000, 1440);
        x.book(2, 0, 500, 600);
        due.is("all are booked", 1 + ranks.length, x.cancel(2, 2));
        for (int i = 0; i < order.length; i++) {
            due.is("in the place " + i, 10 + order[i], x.personOf(3 + i));
        }
    }

    private static void asTheyCame(Due due) {
        Calls x = Scenes.open();
        x.book(1, 0, 10, 1440);
        int[] persons = {9, 5, 7, 6, 8, 5};
        int[] ranks = {2, 1, 2, 1, 2, 1};
        int[] order = {5, 6, 5, 9, 7, 8};
        for (int i = 0; i < persons.length; i++) {
            x.wish(persons[i], 0, 600 - i * 10, 610 - i * 10, ranks[i]);
        }
        due.is("all are booked", 7, x.cancel(1, 1));
        for (int i = 0; i < order.length; i++) {
            due.is("in the place " + i, order[i], x.personOf(2 + i));
        }
        due.is("the first of one person's", 590, x.fromOf(2));
        due.is("the second of one person's", 550, x.fromOf(4));
    }

    private static void notOverEachOther(Due due) {
        Calls x = Scenes.booked();
        x.wish(2, 0, 100, 150, 1);
        x.wish(3, 0, 149, 160, 2);
        x.wish(4, 0, 150, 200, 3);
        x.wish(5, 0, 140, 150, 4);
        due.is("two may be", 3, x.cancel(1, 1));
        due.is("the first", 2, x.personOf(2));
        due.is("one that begins where it ends", 4, x.personOf(3));
        due.is("not one with a minute of it", 1, x.waiting(3));
        due.is("nor of a higher rank", 1, x.waiting(5));
    }

    private static void fiveAtMost(Due due) {
        Calls x = Scenes.open();
        x.book(1, 0, 10, 1440);
        for (int i = 0; i < 7; i++) {
            x.wish(2, 0, 10 + i * 10, 20 + i * 10, -i);
        }
        due.is("five of seven", 6, x.cancel(1, 1));
        due.is("the last of them", 30, x.fromOf(6));
        due.is("two stay", 2, x.waiting(2));
        due.is("and one of them comes later", 2, x.cancel(2, 2));
        due.is("by its rank", 20, x.fromOf(7));
    }

    private static void notBarred(Due due) {
        Calls x = Scenes.living(2, 3);
        x.book(1, 0, 12000, 12100);
        x.wish(2, 0, 12000, 12050, 0);
        x.wish(3, 0, 12050, 12100, 0);
        x.book(4, 0, 12200, 12300);
        x.tick(1041);
        due.is("barred by now", 1, x.barred(2));
        due.is("only that of the other one", 2, x.cancel(4, 1));
        due.is("the barred one's stays", 1, x.waiting(2));
        x.tick(1041 + 10080);
        due.is("when it is barred no more", 2, x.cancel(5, 4));
        due.is("it is booked", 2, x.personOf(7));
    }

    private static void inHoursOfNow(Due due) {
        Calls x = Scenes.open();
        x.book(1, 0, 100, 200);
        x.book(1, 0, 2 * DAY, 2 * DAY + 100);
        x.wish(2, 0, 100, 150, 0);
        x.wish(3, 0, 150, 200, 0);
        x.wish(4, 0, 2 * DAY, 2 * DAY + 50, 0);
        x.hours(0, 0, 150, 200);
        x.holiday(2);
        due.is("one is in the hours of now", 2, x.cancel(1, 1));
        due.is("it", 3, x.personOf(3));
        due.is("not one before them", 1, x.waiting(2));
        due.is("none on the holiday", 1, x.cancel(2, 1));
        due.is("it stays", 1, x.waiting(4));
    }

    private static void notBeforeNow(Due due) {
        Calls x = Scenes.booked();
        x.wish(2, 0, 120, 160, 0);
        x.wish(3, 0, 121, 160, 0);
        due.is("a no-show", 1, x.tick(121));
        due.is("one from NOW on", 3, x.personOf(2));
        due.is("not one from a minute before", 1, x.waiting(2));
        due.is("no more", -1, x.personOf(3));
    }

    private static void notWhenFull(Due due) {
        Calls x = Scenes.full();
        x.cancel(1, 0);
        due.is("a wish though there are 200", 1, x.wish(0, 1, 100, 130, 0));
        due.is("none is booked", 1, x.cancel(6, 1));
        due.is("it stays", 1, x.waiting(0));
        Calls last = Scenes.filled(199);
        last.cancel(1, 0);
        last.cancel(6, 1);
        last.wish(0, 2, 100, 115, 0);
        last.wish(1, 2, 115, 130, 0);
        due.is("with room for one", 2, last.cancel(11, 2));
        due.is("the 200th", 0, last.personOf(200));
        due.is("the other stays", 1, last.waiting(1));
    }

    private static void waitNoMore(Due due) {
        Calls x = Scenes.booked();
        x.wish(2, 0, 100, 200, 0);
        x.wish(2, 0, 100, 200, 0);
        due.is("two wait", 2, x.waiting(2));
        due.is("one is booked", 2, x.cancel(1, 1));
        due.is("one waits", 1, x.waiting(2));
        due.is("the other is booked", 2, x.cancel(2, 2));
        due.is("none waits", 0, x.waiting(2));
        due.is("none is booked", 1, x.cancel(3, 2));
        due.is("no more", -1, x.personOf(4));
        x.book(1, 0, 100, 200);
        due.is("the first again", 1, x.wish(3, 0, 100, 200, 0));
    }

    private static void othersStay(Due due) {
        Calls x = Scenes.sixtyWait();
        for (int i = 0; i < 60; i++) {
            int owner = i == 0 ? 1 : 2 + (60 - i) % 30;
            due.is("one of those that wait", 2, x.cancel(i + 1, owner));
            due.is("the next by rank", 2 + (59 - i) % 30, x.personOf(i + 2));
        }
        due.is("none is left", 1, x.cancel(61, 2));
    }

    private static void none(Due due) {
        due.is("NONE", -1, BookingRows.NONE);
    }
}
