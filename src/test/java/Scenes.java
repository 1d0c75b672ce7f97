/** Objects in a state that several tests begin with. */
final class Scenes {
    static final int DAY = 1440;
    static final int BOOKED = 0;
    static final int IN = 1;
    static final int DONE = 2;
    static final int CANCELLED = 3;
    static final int NO_SHOW = 4;
    static final int LOWEST = Integer.MIN_VALUE;
    static final int HIGHEST = Integer.MAX_VALUE;

    private Scenes() {
    }

    /** Things 0 to 3 at place 0 and thing 4 at place 1, with wide rules, open always. */
    static Calls open() {
        Calls x = new Calls();
        for (int thing = 0; thing < 5; thing++) {
            x.thing(thing < 4 ? 0 : 1, 10, 1440, 100000, 20);
        }
        for (int weekday = 0; weekday < 7; weekday++) {
            x.hours(0, weekday, 0, 1440);
            x.hours(1, weekday, 0, 1440);
        }
        return x;
    }

    /** Booking 1 of person 1: thing 0 from 100 to 200. */
    static Calls booked() {
        Calls x = open();
        x.book(1, 0, 100, 200);
        return x;
    }

    /** Booking 1 as in booked, and thing 1 as its equipment, booking 2. */
    static Calls equipped() {
        Calls x = booked();
        x.equip(1, 1);
        return x;
    }

    /** Booking 1 as in booked, but in this state, at the first time at which it can have it. */
    static Calls inState(int state) {
        Calls x = booked();
        if (state == IN || state == DONE) {
            x.tick(85);
            x.checkIn(1, 1);
        }
        if (state == DONE) {
            x.tick(200);
        }
        if (state == CANCELLED) {
            x.cancel(1, 1);
        }
        if (state == NO_SHOW) {
            x.tick(121);
        }
        return x;
    }

    /** A person with so many bookings of thing 3, ten minutes each from 1000 on. */
    static Calls living(int person, int many) {
        Calls x = open();
        for (int i = 0; i < many; i++) {
            x.book(person, 3, 1000 + i * 10, 1010 + i * 10);
        }
        return x;
    }

    /**
     * As equipped, with one thing more; but with three bookings that come later, person 1 has six,
     * and so its wish for thing 0 may be only when booking 1 and its equipment live no more.
     */
    static Calls sixWithEquipment() {
        Calls x = booked();
        x.book(2, 0, 300, 400);
        x.wish(1, 0, 300, 350, 0);
        for (int i = 0; i < 3; i++) {
            x.book(1, 3, 1000 + i * 10, 1010 + i * 10);
        }
        x.equip(1, 1);
        x.equip(1, 2);
        x.edit(2, 2, 500, 600);
        return x;
    }

    /** A person that is barred from 100 on, until 10180, by bookings 1 to 3, which were thing 3. */
    static Calls barred(int person) {
        Calls x = open();
        for (int i = 0; i < 3; i++) {
            x.book(person, 3, 10 + i * 10, 20 + i * 10);
        }
        x.tick(100);
        return x;
    }

    /**
     * So many bookings, which all live: five of each person p (the last may have fewer), of thing
     * p % 4, on days 0 to 4 from 100 + p / 4 * 40 on for 30 minutes. The first of a person's has
     * the number 5 * p + 1.
     */
    static Calls filled(int many) {
        Calls x = open();
        for (int made = 0; made < many; made += 5) {
            int person = made / 5;
            int from = 100 + person / 4 * 40;
            int first = x.book(person, person % 4, from, from + 30);
            x.recurring(first, 1, Math.min(4, many - first));
        }
        return x;
    }

    /** There are 200 bookings, and all live; see filled. */
    static Calls full() {
        return filled(200);
    }

    /** As booked, and 60 wait for it: persons 2 to 31, twice each, the later ones first by rank. */
    static Calls sixtyWait() {
        Calls x = booked();
        for (int i = 0; i < 60; i++) {
            x.wish(2 + i % 30, 0, 100, 200, -i);
        }
        return x;
    }

    /** As booked, and days 20 to 59 are holidays. */
    static Calls fortyHolidays() {
        Calls x = booked();
        for (int day = 20; day < 60; day++) {
            x.holiday(day);
        }
        return x;
    }

    /**
     * Something of everything: bookings in each state, equipment, wishes, a holiday, hours that
     * are not the whole day, a barred person 7, NOW at 400.
     */
    static Calls busy() {
        Calls x = open();
        x.hours(0, 3, 480, 1200);
        x.holiday(2);
        for (int i = 0; i < 3; i++) {
            x.book(7, 2, 10 + i * 10, 20 + i * 10);
        }
        x.book(1, 0, 100, 200);
        x.book(1, 1, 380, 900);
        x.book(2, 0, 600, 700);
        x.equip(6, 2);
        x.book(3, 0, 700, 800);
        x.book(4, 4, 700, 800);
        x.tick(100);
        x.checkIn(4, 1);
        x.tick(390);
        x.checkIn(5, 1);
        x.cancel(8, 3);
        x.wish(8, 0, 600, 650, 4);
        x.wish(9, 0, 610, 660, 2);
        x.wish(8, 1, 500, 600, 0);
        x.tick(400);
        return x;
    }
}
