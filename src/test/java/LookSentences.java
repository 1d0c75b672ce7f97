/** Promises 13 to 17: clash, booking, list, person, used. */
final class LookSentences {
    private static final int[] NO_BOOKINGS = {-1, 0, 10, 200, 201, Scenes.LOWEST, Scenes.HIGHEST};

    private LookSentences() {
    }

    static void say(Sentences s) {
        s.say("Whether two bookings CLASH, had both to live", LookSentences::clash,
                LookSentences::clashWhateverState, LookSentences::clashOfOneThing);
        s.say("(also the same one);", LookSentences::clashWithItself);
        s.say("false if one is not there.", LookSentences::clashWithNone);

        s.say("Of a booking, what 0: the person, 1: the thing, 2: from, 3: to, 4: its state,",
                LookSentences::booking);
        s.say("5: with which it goes, or 0;", LookSentences::withWhich);
        s.say("NONE if there is none such,", LookSentences::bookingNone);
        s.say("or for another what.", LookSentences::bookingOtherWhat);

        s.say("The i-th booking, from 0 on, of a person that lives,", LookSentences::list,
                LookSentences::listOfWhatLives);
        s.say("by its beginning, then by numbers;", LookSentences::listInOrder);
        s.say("0 if there is none such.", LookSentences::listNone);

        s.say("Of a person, what 0: NO-SHOWS,", LookSentences::noShows);
        s.say("1: 1 if it is BARRED now, else 0,", LookSentences::barred);
        s.say("2: how many wishes wait;", LookSentences::wishes);
        s.say("NONE if there is none such,", LookSentences::personNone);
        s.say("or for another what.", LookSentences::personOtherWhat);

        s.say("The minutes of a thing that are DONE, in all;", LookSentences::used,
                LookSentences::usedOnlyWhatIsDone, LookSentences::usedMost);
        s.say("NONE if there is none such.", LookSentences::usedNone);
    }

    private static void clash(Due due) {
        int[][] times = {
            {50, 99, 0}, {50, 100, 0}, {50, 101, 1}, {50, 250, 1}, {100, 150, 1}, {100, 200, 1},
            {120, 180, 1}, {199, 250, 1}, {200, 250, 0}, {201, 250, 0},
        };
        for (int[] row : times) {
            Calls x = Scenes.booked();
            x.cancel(1, 1);
            x.book(2, 0, row[0], row[1]);
            String with = row[0] + " to " + row[1];
            due.is("with " + with, row[2] == 1, x.clash(1, 2));
            due.is(with + " with it", row[2] == 1, x.clash(2, 1));
        }
    }

    /** In each state, with one that began in it and took its thing. */
    private static void clashWhateverState(Due due) {
        Calls cancelled = Scenes.inState(Scenes.CANCELLED);
        cancelled.book(2, 0, 150, 250);
        due.is("cancelled and booked", true, cancelled.clash(1, 2));
        cancelled.cancel(2, 2);
        due.is("both cancelled", true, cancelled.clash(1, 2));
        Calls noShow = Scenes.inState(Scenes.NO_SHOW);
        noShow.book(2, 0, 150, 250);
        due.is("no-show and booked", true, noShow.clash(1, 2));
        noShow.tick(150);
        noShow.checkIn(2, 2);
        due.is("no-show and in", true, noShow.clash(2, 1));
        noShow.tick(250);
        due.is("no-show and done", true, noShow.clash(1, 2));
        Calls living = Scenes.booked();
        living.book(2, 0, 200, 300);
        due.is("both live, one behind the other", false, living.clash(1, 2));
    }

    private static void clashOfOneThing(Due due) {
        Calls x = Scenes.equipped();
        due.is("of two things", false, x.clash(1, 2));
        due.is("of two things", false, x.clash(2, 1));
        x.cancel(2, 1);
        x.equip(1, 1);
        due.is("of one thing, both equipment", true, x.clash(2, 3));
    }

    private static void clashWithItself(Due due) {
        for (int state = Scenes.BOOKED; state <= Scenes.NO_SHOW; state++) {
            due.is("in state " + state, true, Scenes.inState(state).clash(1, 1));
        }
        Calls full = Scenes.full();
        due.is("the last", true, full.clash(200, 200));
    }

    private static void clashWithNone(Due due) {
        Calls x = Scenes.busy();
        for (int booking : NO_BOOKINGS) {
            due.is("with " + booking, false, x.clash(1, booking));
            due.is(booking + " with it", false, x.clash(booking, 1));
            due.is("both " + booking, false, x.clash(booking, booking));
            Untouched.by(due, "and nothing happens", 0, Scenes.booked(),
                    y -> y.clash(booking, 1) ? 1 : 0);
        }
        Untouched.by(due, "nor when both are", 1, Scenes.busy(), y -> y.clash(6, 6) ? 1 : 0);
    }

    private static void booking(Due due) {
        Calls x = Scenes.open();
        x.book(39, 4, 100, 200);
        x.book(0, 0, 0, 1440);
        int[] first = {39, 4, 100, 200, Scenes.BOOKED};
        int[] second = {0, 0, 0, 1440, Scenes.BOOKED};
        for (int what = 0; what <= 4; what++) {
            due.is("the first's " + what, first[what], x.booking(1, what));
            due.is("the second's " + what, second[what], x.booking(2, what));
        }
        for (int state = Scenes.BOOKED; state <= Scenes.NO_SHOW; state++) {
            Calls y = Scenes.inState(state);
            due.is("its state", state, y.booking(1, 4));
            due.is("its person, as ever", 1, y.booking(1, 0));
            due.is("its from, as ever", 100, y.booking(1, 2));
            due.is("its to, as ever", 200, y.booking(1, 3));
        }
        due.is("the last one's person", 39, Scenes.full().booking(200, 0));
    }

    private static void withWhich(Due due) {
        Calls x = Scenes.equipped();
        x.book(2, 2, 300, 400);
        x.equip(3, 0);
        due.is("with none", 0, x.booking(1, 5));
        due.is("with the first", 1, x.booking(2, 5));
        due.is("with none", 0, x.booking(3, 5));
        due.is("with the third", 3, x.booking(4, 5));
        x.cancel(1, 1);
        due.is("cancelled, with the first", 1, x.booking(2, 5));
    }

    private static void bookingNone(Due due) {
        Calls x = Scenes.busy();
        for (int booking : NO_BOOKINGS) {
            for (int what = 0; what <= 5; what++) {
                due.is("booking(" + booking + ", " + what + ")", -1, x.booking(booking, what));
            }
        }
        due.is("the last that is there", 4, x.booking(9, 0));
        Untouched.by(due, "and nothing happens", -1, Scenes.busy(), y -> y.booking(10, 0));
        due.is("behind 200", -1, Scenes.full().booking(201, 0));
    }

    private static void bookingOtherWhat(Due due) {
        for (int what : new int[] {-1, 6, Scenes.LOWEST, Scenes.HIGHEST}) {
            Untouched.by(due, "what " + what, -1, Scenes.busy(), x -> x.booking(1, what));
        }
    }

    private static void list(Due due) {
        Calls x = Scenes.living(1, 5);
        x.book(2, 0, 100, 200);
        for (int i = 0; i < 5; i++) {
            due.is("the " + i + "-th", 1 + i, x.list(1, i));
        }
        due.is("another person's", 6, x.list(2, 0));
        due.is("and no more", 0, x.list(2, 1));
        x.equip(6, 1);
        due.is("equipment too", 7, x.list(2, 1));
    }

    private static void listOfWhatLives(Due due) {
        for (int state = Scenes.BOOKED; state <= Scenes.NO_SHOW; state++) {
            boolean lives = state == Scenes.BOOKED || state == Scenes.IN;
            Calls x = Scenes.inState(state);
            x.book(1, 1, 500, 600);
            due.is("in state " + state, lives ? 1 : 2, x.list(1, 0));
            due.is("then", lives ? 2 : 0, x.list(1, 1));
        }
    }

    private static void listInOrder(Due due) {
        Calls x = Scenes.open();
        x.book(1, 0, 500, 600);
        x.book(1, 1, 499, 900);
        x.book(1, 2, 500, 510);
        x.book(1, 3, 501, 511);
        int[] order = {2, 1, 3, 4};
        for (int i = 0; i < order.length; i++) {
            due.is("the " + i + "-th", order[i], x.list(1, i));
        }
        due.is("edited", 1, x.edit(4, 1, 498, 600));
        due.is("is the first", 4, x.list(1, 0));
        due.is("edited", 1, x.edit(4, 1, 500, 600));
        due.is("is the last of its beginning", 4, x.list(1, 3));
        due.is("that of the least number", 1, x.list(1, 1));
    }

    private static void listNone(Due due) {
        Calls x = Scenes.living(1, 5);
        for (int i : new int[] {-1, 5, 6, Scenes.LOWEST, Scenes.HIGHEST}) {
            Untouched.by(due, "the " + i + "-th", 0, x, y -> y.list(1, i));
        }
        for (int person : new int[] {0, 2, 39, -1, 40, Scenes.LOWEST, Scenes.HIGHEST}) {
            Untouched.by(due, "of person " + person, 0, x, y -> y.list(person, 0));
        }
        due.is("the last", 5, x.list(1, 4));
        due.is("person 0 where there are none", 0, Scenes.open().list(0, 0));
    }

    private static void noShows(Due due) {
        Calls x = Scenes.open();
        x.book(0, 0, 100, 110);
        x.book(39, 1, 100, 110);
        x.book(39, 1, 110, 120);
        due.is("none", 0, x.person(0, 0));
        x.tick(121);
        due.is("of the first person", 1, x.person(0, 0));
        due.is("of the last person", 1, x.person(39, 0));
        x.tick(131);
        due.is("one more", 2, x.person(39, 0));
        due.is("another's", 0, x.person(1, 0));
    }

    private static void barred(Due due) {
        for (int person : new int[] {0, 39}) {
            Calls x = Scenes.barred(person);
            due.is("barred", 1, x.person(person, 1));
            due.is("another", 0, x.person(1, 1));
            x.tick(10179);
            due.is("still", 1, x.person(person, 1));
            x.tick(10180);
            due.is("no more", 0, x.person(person, 1));
        }
        due.is("at first", 0, Scenes.open().person(0, 1));
    }

    private static void wishes(Due due) {
        Calls x = Scenes.sixtyWait();
        due.is("the first person's", 2, x.person(2, 2));
        due.is("the last person's", 2, x.person(31, 2));
        due.is("one without", 0, x.person(32, 2));
        x.cancel(1, 1);
        due.is("one less", 1, x.person(31, 2));
        Calls all = Scenes.booked();
        for (int i = 0; i < 60; i++) {
            all.wish(0, 0, 100, 200, 0);
        }
        due.is("all of them", 60, all.person(0, 2));
    }

    private static void personNone(Due due) {
        for (int person : new int[] {-1, 40, Scenes.LOWEST, Scenes.HIGHEST}) {
            for (int what = 0; what <= 2; what++) {
                due.is("person(" + person + ", " + what + ")", -1,
                        Scenes.busy().person(person, what));
            }
            Untouched.by(due, "and nothing happens", -1, Scenes.busy(),
                    x -> x.person(person, 0));
        }
    }

    private static void personOtherWhat(Due due) {
        for (int what : new int[] {-1, 3, Scenes.LOWEST, Scenes.HIGHEST}) {
            Untouched.by(due, "what " + what, -1, Scenes.busy(), x -> x.person(7, what));
        }
    }

    private static void used(Due due) {
        Calls x = Scenes.equipped();
        x.book(2, 0, 200, 250);
        due.is("none yet", 0, x.used(0));
        x.tick(100);
        x.checkIn(1, 1);
        x.tick(199);
        due.is("a minute before the end", 0, x.used(0));
        x.tick(200);
        due.is("done", 100, x.used(0));
        due.is("its equipment", 100, x.used(1));
        due.is("another thing", 0, x.used(2));
        x.checkIn(3, 2);
        x.tick(250);
        due.is("both", 150, x.used(0));
        due.is("not of its equipment", 100, x.used(1));
    }

    private static void usedOnlyWhatIsDone(Due due) {
        for (int state = Scenes.BOOKED; state <= Scenes.NO_SHOW; state++) {
            due.is("in state " + state, state == Scenes.DONE ? 100 : 0,
                    Scenes.inState(state).used(0));
        }
    }

    private static void usedMost(Due due) {
        Calls x = Scenes.open();
        x.book(1, 0, 0, 1440);
        x.recurring(1, 1, 4);
        for (int day = 0; day < 5; day++) {
            due.is("in", 1, x.checkIn(day + 1, 1));
            x.tick((day + 1) * 1440);
            due.is("in all", (day + 1) * 1440, x.used(0));
        }
    }

    private static void usedNone(Due due) {
        for (int thing : new int[] {-1, 5, 29, 30, Scenes.LOWEST, Scenes.HIGHEST}) {
            Untouched.by(due, "thing " + thing, -1, Scenes.busy(), x -> x.used(thing));
        }
        due.is("the first", 100, Scenes.busy().used(0));
        due.is("the last", 0, Scenes.busy().used(4));
    }
}
