import java.util.List;
import java.util.function.ToIntFunction;

/** What it is: in short, and for how many calls. */
final class WhatItIsSentences {
    private static final int DAY = Scenes.DAY;

    private WhatItIsSentences() {
    }

    static void say(Sentences s) {
        s.say("Rooms and equipment booked by persons:", WhatItIsSentences::booked);
        s.say("rules of length, of how far ahead, how many;", WhatItIsSentences::rules);
        s.say("opening hours and holidays,", WhatItIsSentences::openingHours);
        s.say("waiting lists by rank,", WhatItIsSentences::waitingLists);
        s.say("check-ins, no-shows with penalties,", WhatItIsSentences::penalties);
        s.say("equipment that goes with a room.", WhatItIsSentences::equipment);
        s.say("An object is used for at most 512 calls after it has been made;",
                WhatItIsSentences::lastCallOfEach, WhatItIsSentences::lastCallWhenAllIsFull,
                WhatItIsSentences::eachCallOfALongLife);
        s.say("what later calls answer is free.", WhatItIsSentences::laterCallsEnd);
    }

    private static void booked(Due due) {
        Calls x = Scenes.open();
        due.is("a room", 1, x.book(0, 0, 100, 200));
        due.is("equipment", 2, x.equip(1, 1));
        due.is("equipment like a room", 3, x.book(39, 2, 100, 200));
    }

    private static void rules(Due due) {
        Calls x = Scenes.living(1, 5);
        due.is("length", -2, x.book(2, 0, 100, 109));
        due.is("how far ahead", -3, x.book(2, 0, 100001, 100100));
        due.is("how many", -5, x.book(1, 0, 100, 200));
    }

    private static void openingHours(Due due) {
        Calls x = Scenes.open();
        x.hours(0, 1, 480, 1200);
        x.holiday(2);
        due.is("before the hours", -4, x.book(1, 0, DAY + 479, DAY + 500));
        due.is("in the hours", 1, x.book(1, 0, DAY + 480, DAY + 500));
        due.is("on a holiday", -4, x.book(1, 0, 2 * DAY, 2 * DAY + 20));
    }

    private static void waitingLists(Due due) {
        Calls x = Scenes.booked();
        x.wish(2, 0, 100, 200, 2);
        x.wish(3, 0, 100, 200, 1);
        due.is("one of two", 2, x.cancel(1, 1));
        due.is("that of the least rank", 3, x.personOf(2));
    }

    private static void penalties(Due due) {
        Calls x = Scenes.living(1, 4);
        x.tick(1000);
        due.is("check-in", 1, x.checkIn(1, 1));
        due.is("no-shows", 3, x.tick(1051));
        due.is("barred", 1, x.barred(1));
        due.is("penalty", -5, x.book(1, 0, 1100, 1200));
    }

    private static void equipment(Due due) {
        Calls x = Scenes.equipped();
        due.is("with the room", 1, x.withOf(2));
        x.cancel(1, 1);
        due.is("cancelled with it", Scenes.CANCELLED, x.stateOf(2));
    }

    /** The answers are those of the same call when only a few were made before it. */
    private static void lastCallOfEach(Due due) {
        asLast(due, "thing", 5, Scenes.busy(), x -> x.thing(3, 1, 1440, 100000, 120));
        asLast(due, "hours", 1, Scenes.busy(), x -> x.hours(3, 6, 0, 1440));
        asLast(due, "holiday", 2, Scenes.busy(), x -> x.holiday(694));
        asLast(due, "book", 10, Scenes.busy(), x -> x.book(9, 3, 500, 600));
        asLast(due, "recurring", 1, Scenes.busy(), x -> x.recurring(6, 1, 2));
        asLast(due, "cancel", 2, Scenes.busy(), x -> x.cancel(6, 2));
        asLast(due, "edit", 1, Scenes.busy(), x -> x.edit(9, 4, 800, 900));
        asLast(due, "equip", 10, Scenes.busy(), x -> x.equip(6, 3));
        asLast(due, "wish", 4, Scenes.busy(), x -> x.wish(9, 1, 600, 700, 0));
        asLast(due, "tick", 2, Scenes.busy(), x -> x.tick(721));
        asLast(due, "clash", 1, Scenes.busy(), x -> x.clash(6, 6) ? 1 : 0);
        asLast(due, "booking", 6, Scenes.busy(), x -> x.booking(7, 5));
        asLast(due, "list", 7, Scenes.busy(), x -> x.list(2, 1));
        asLast(due, "person", 1, Scenes.busy(), x -> x.person(7, 1));
        asLast(due, "used", 100, Scenes.busy(), x -> x.used(0));
        Calls early = Scenes.busy();
        early.tick(585);
        asLast(due, "checkIn", 1, early, x -> x.checkIn(6, 2));
    }

    /** Thirty things, forty holidays, sixty wishes, two hundred bookings. */
    private static void lastCallWhenAllIsFull(Due due) {
        asLast(due, "no thing more", -1, allFull(), x -> x.thing(0, 1, 1, 0, 0));
        asLast(due, "no holiday more", 0, allFull(), x -> x.holiday(200));
        asLast(due, "no wish more", 0, allFull(), x -> x.wish(39, 0, 100, 130, 0));
        asLast(due, "no booking more", 0, allFull(), x -> x.book(39, 0, 1000, 1010));
        asLast(due, "none again", 0, allFull(), x -> x.recurring(1, 60, 1));
        asLast(due, "no equipment more", 0, allFull(), x -> x.equip(200, 1));
        asLast(due, "no wish is booked", 1, allFull(), x -> x.cancel(1, 0));
        asLast(due, "sixty wait", 60, allFull(), x -> x.waiting(39));
        asLast(due, "the last booking", 39, allFull(), x -> x.personOf(200));
        asLast(due, "all are no-shows", 200, allFull(), x -> x.tick(1000000));
    }

    private static Calls allFull() {
        Calls x = Scenes.filled(199);
        for (int i = 0; i < 60; i++) {
            x.wish(39, 0, 100, 130, i);
        }
        x.book(39, 3, 1000, 1010);
        for (int thing = 5; thing < 30; thing++) {
            x.thing(thing % 4, 1, 1440, 100000, 120);
        }
        for (int day = 100; day < 140; day++) {
            x.holiday(day);
        }
        return x;
    }

    private static void asLast(Due due, String name, int want, Calls x,
            ToIntFunction<Calls> call) {
        useUp(x, 1);
        due.is("the 512th call: " + name, want, call.applyAsInt(x));
        due.is("none is left", 0, x.left());
    }

    /** A hundred days on each of which one is booked, checked in and done. */
    private static void eachCallOfALongLife(Due due) {
        Calls x = Scenes.open();
        for (int i = 1; i <= 100; i++) {
            int from = i * DAY + 100;
            due.is("booked", i, x.book(1, 0, from, from + 10));
            x.tick(from);
            due.is("in", 1, x.checkIn(i, 1));
            x.tick(from + 10);
        }
        while (x.left() > 1) {
            due.is("none waits", 0, x.waiting(1));
        }
        due.is("all that was done", 1000, x.used(0));
    }

    /** Whatever they answer, they end, and throw nothing. */
    private static void laterCallsEnd(Due due) {
        int[] numbers = {
            Scenes.LOWEST, -1, 0, 1, 2, 6, 29, 30, 39, 40, 150, 200, 201, 1440, 1000000,
            Scenes.HIGHEST
        };
        int ended = 0;
        for (Calls x : List.of(new Calls(), Scenes.busy(), allFull())) {
            useUp(x, 0);
            for (int a : numbers) {
                for (int b : numbers) {
                    x.later(rows -> everyMethod(rows, a, b));
                    ended++;
                }
            }
        }
        due.is("all of them end", 3 * numbers.length * numbers.length, ended);
    }

    private static void everyMethod(BookingRows rows, int a, int b) {
        rows.thing(a, b, 1440, a, b);
        rows.hours(a, b, a, b);
        rows.holiday(a);
        rows.book(a, b, 2000, 2100);
        rows.book(1, 1, a, b);
        rows.wish(a, b, 2000, 2100, a);
        rows.wish(2, 1, a, b, b);
        rows.recurring(a, b, 20);
        rows.recurring(a, 1, b);
        rows.equip(a, b);
        rows.edit(a, b, 2000, 2100);
        rows.edit(6, 2, a, b);
        rows.checkIn(a, b);
        rows.cancel(a, b);
        rows.tick(a);
        rows.clash(a, b);
        rows.booking(a, b);
        rows.list(a, b);
        rows.person(a, b);
        rows.used(a);
    }

    private static void useUp(Calls x, int left) {
        while (x.left() > left) {
            x.used(0);
        }
    }
}
