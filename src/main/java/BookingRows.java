/**
 * Rooms and equipment booked by persons: rules of length, of how far ahead, how many; opening
 * hours and holidays, waiting lists by rank, check-ins, no-shows with penalties, equipment that
 * goes with a room.
 *
 * <p>All rows are made with the object and used again, so no call makes anything new.
 */
public final class BookingRows {
    /** None such. */
    public static final int NONE = -1;

    private static final int LAST_TIME = 1000000;
    private static final int DAY_MINUTES = 1440;
    private static final int DAYS = LAST_TIME / DAY_MINUTES + 1;
    private static final int WEEKDAYS = 7;
    private static final int PLACES = 4;
    private static final int PERSONS = 40;

    private static final int MOST_HOLIDAYS = 40;
    private static final int MOST_THINGS = 30;
    private static final int MOST_BOOKINGS = 200;
    private static final int MOST_WISHES = 60;
    private static final int MOST_AHEAD = 100000;
    private static final int MOST_GRACE = 120;
    private static final int MOST_LIVING = 5;
    private static final int MOST_DAYS_BETWEEN = 60;
    private static final int MOST_TIMES = 20;

    private static final int CHECK_IN_EARLIEST = 15;
    private static final int NO_SHOWS_TO_BAR = 3;
    private static final int BAR_MINUTES = 10080;

    private static final int BOOKED = 0;
    private static final int IN = 1;
    private static final int DONE = 2;
    private static final int CANCELLED = 3;
    private static final int NO_SHOW = 4;

    private static final int MAY_BE = 0;
    private static final int BAD_TIMES = -1;
    private static final int BAD_LENGTH = -2;
    private static final int BAD_BEGINNING = -3;
    private static final int CLOSED = -4;
    private static final int PERSON_REFUSED = -5;
    private static final int TAKEN = -6;

    /** Stands for a booking where there is none: bookings are numbered from 1 on. */
    private static final int NO_BOOKING = 0;

    private final Calendar calendar = new Calendar();
    private final Things things = new Things();
    private final Bookings bookings = new Bookings();
    private final Wishes wishes = new Wishes();
    private final Penalties penalties = new Penalties();
    private int now = 0;

    /** No things, no hours, no bookings. */
    public BookingRows() {
    }

    /** A thing more: its number, or NONE. */
    public int thing(int place, int least, int most, int ahead, int grace) {
        boolean minutesCanBe = 1 <= least && least <= most && most <= DAY_MINUTES;
        boolean restCanBe = isWithin(ahead, 0, MOST_AHEAD) && isWithin(grace, 0, MOST_GRACE);
        if (!isPlace(place) || !minutesCanBe || !restCanBe || things.isFull()) {
            return NONE;
        }
        return things.add(place, least, most, ahead, grace);
    }

    /** Hours of a place on a weekday, both 0 for none: 1, or 0 if these can't be. */
    public int hours(int place, int weekday, int from, int to) {
        boolean none = from == 0 && to == 0;
        boolean some = 0 <= from && from < to && to <= DAY_MINUTES;
        if (!isPlace(place) || !isWithin(weekday, 0, WEEKDAYS - 1) || !(none || some)) {
            return 0;
        }
        calendar.setHours(place, weekday, from, to);
        return 1;
    }

    /** A day is a holiday: how many there are, or 0. */
    public int holiday(int day) {
        if (!isWithin(day, 0, DAYS - 1) || calendar.isHoliday(day) || calendar.isFull()) {
            return 0;
        }
        return calendar.addHoliday(day);
    }

    /** A booking: its number, 0, or what it may not be. */
    public int book(int person, int thing, int from, int to) {
        if (!isPerson(person) || !things.has(thing)) {
            return 0;
        }
        return tryBooking(person, thing, from, to);
    }

    /** A booking again, so many days later, so many times: how many bookings that makes. */
    public int recurring(int booking, int days, int times) {
        if (!bookings.has(booking) || !bookings.lives(booking)) {
            return 0;
        }
        if (!isWithin(days, 1, MOST_DAYS_BETWEEN) || !isWithin(times, 1, MOST_TIMES)) {
            return 0;
        }
        int person = bookings.personOf(booking);
        int thing = bookings.thingOf(booking);
        int made = 0;
        for (int i = 1; i <= times; i++) {
            int later = i * days * DAY_MINUTES;
            int answer = tryBooking(person, thing,
                    bookings.fromOf(booking) + later, bookings.toOf(booking) + later);
            if (answer == NO_BOOKING || answer == BAD_BEGINNING) {
                break;
            }
            if (answer > 0) {
                made++;
            }
        }
        return made;
    }

    /** A booking is cancelled: 1 and how many wishes were booked by that; 0, or -1 if begun. */
    public int cancel(int booking, int person) {
        if (!bookings.isBookedBy(booking, person)) {
            return 0;
        }
        if (now >= bookings.fromOf(booking)) {
            return -1;
        }
        return 1 + release(booking, CANCELLED);
    }

    /** A person checks in, with the equipment: 1; 0, or -1 if too early or too late. */
    public int checkIn(int booking, int person) {
        if (!bookings.isBookedBy(booking, person)) {
            return 0;
        }
        int earliest = bookings.fromOf(booking) - CHECK_IN_EARLIEST;
        if (now < earliest || now > lastCheckIn(booking)) {
            return -1;
        }
        bookings.turn(booking, IN);
        return 1;
    }

    /** A booking has other times: 1, 0, or what it may not be. */
    public int edit(int booking, int person, int from, int to) {
        if (!bookings.isBookedBy(booking, person) || bookings.isEquipment(booking)
                || bookings.hasLivingEquipment(booking)) {
            return 0;
        }
        int refusal = refusalOf(person, bookings.thingOf(booking), from, to, booking);
        if (refusal != MAY_BE) {
            return refusal;
        }
        bookings.setTimes(booking, from, to);
        return 1;
    }

    /** Another thing of the place goes with a booking: the number of its own booking, 0, or -6. */
    public int equip(int booking, int thing) {
        if (!bookings.has(booking) || !bookings.isBooked(booking) || bookings.isEquipment(booking)
                || bookings.isFull()) {
            return 0;
        }
        int host = bookings.thingOf(booking);
        if (!things.has(thing) || thing == host || things.placeOf(thing) != things.placeOf(host)) {
            return 0;
        }
        int from = bookings.fromOf(booking);
        int to = bookings.toOf(booking);
        if (bookings.isTaken(thing, from, to, NO_BOOKING)) {
            return TAKEN;
        }
        return bookings.add(bookings.personOf(booking), thing, from, to, booking);
    }

    /** A wish for what would only clash now: how many wait, 0, or NONE. */
    public int wish(int person, int thing, int from, int to, int rank) {
        if (!isPerson(person) || !things.has(thing) || wishes.isFull()) {
            return 0;
        }
        if (refusalOf(person, thing, from, to, NO_BOOKING) != TAKEN) {
            return NONE;
        }
        return wishes.add(person, thing, from, to, rank);
    }

    /** Now is later: how many no-shows there were by that, or NONE. */
    public int tick(int t) {
        if (t <= now || t > LAST_TIME) {
            return NONE;
        }
        now = t;
        bookings.finish(now);
        int missed = 0;
        // What wishes add meanwhile begins at NOW or later, and so can't be missed by it.
        int last = bookings.size();
        for (int booking = 1; booking <= last; booking++) {
            if (isMissed(booking)) {
                missed++;
                penalties.countNoShow(bookings.personOf(booking), now);
                release(booking, NO_SHOW);
            }
        }
        return missed;
    }

    /** Whether two bookings would clash if both lived. */
    public boolean clash(int a, int b) {
        return bookings.has(a) && bookings.has(b) && bookings.thingOf(a) == bookings.thingOf(b)
                && bookings.meets(a, bookings.fromOf(b), bookings.toOf(b));
    }

    /** Of a booking: person, thing, from, to, state, with which it goes; or NONE. */
    public int booking(int booking, int what) {
        if (!bookings.has(booking)) {
            return NONE;
        }
        switch (what) {
            case 0: return bookings.personOf(booking);
            case 1: return bookings.thingOf(booking);
            case 2: return bookings.fromOf(booking);
            case 3: return bookings.toOf(booking);
            case 4: return bookings.stateOf(booking);
            case 5: return bookings.hostOf(booking);
            default: return NONE;
        }
    }

    /** The i-th living booking of a person by its beginning, then by numbers; or 0. */
    public int list(int person, int i) {
        return bookings.livingAt(person, i);
    }

    /** Of a person: no-shows, whether barred now, how many wishes wait; or NONE. */
    public int person(int person, int what) {
        if (!isPerson(person)) {
            return NONE;
        }
        switch (what) {
            case 0: return penalties.noShowsOf(person);
            case 1: return penalties.isBarred(person, now) ? 1 : 0;
            case 2: return wishes.countOf(person);
            default: return NONE;
        }
    }

    /** The minutes of a thing that are done, or NONE. */
    public int used(int thing) {
        return things.has(thing) ? bookings.doneMinutes(thing) : NONE;
    }

    private static boolean isWithin(int number, int least, int most) {
        return least <= number && number <= most;
    }

    private static boolean isPlace(int place) {
        return isWithin(place, 0, PLACES - 1);
    }

    private static boolean isPerson(int person) {
        return isWithin(person, 0, PERSONS - 1);
    }

    private static boolean isTime(int time) {
        return isWithin(time, 0, LAST_TIME);
    }

    /** The number of the new booking, NO_BOOKING if no more can be kept, or what it may not be. */
    private int tryBooking(int person, int thing, int from, int to) {
        if (bookings.isFull()) {
            return NO_BOOKING;
        }
        int refusal = refusalOf(person, thing, from, to, NO_BOOKING);
        return refusal == MAY_BE ? bookings.add(person, thing, from, to, NO_BOOKING) : refusal;
    }

    /** What a booking may not be, or MAY_BE; edited is the booking whose times these would be. */
    private int refusalOf(int person, int thing, int from, int to, int edited) {
        if (!isTime(from) || !isTime(to) || from >= to) {
            return BAD_TIMES;
        }
        if (!things.allowsLength(thing, to - from)) {
            return BAD_LENGTH;
        }
        if (from < now || from - now > things.aheadOf(thing)) {
            return BAD_BEGINNING;
        }
        if (!calendar.isOpen(things.placeOf(thing), from, to)) {
            return CLOSED;
        }
        boolean isEdit = edited != NO_BOOKING;
        if (!isEdit && (penalties.isBarred(person, now)
                || bookings.livingOf(person) >= MOST_LIVING)) {
            return PERSON_REFUSED;
        }
        return bookings.isTaken(thing, from, to, edited) ? TAKEN : MAY_BE;
    }

    private int lastCheckIn(int booking) {
        return bookings.fromOf(booking) + things.graceOf(bookings.thingOf(booking));
    }

    /** Equipment is never missed by itself, only with the booking that it goes with. */
    private boolean isMissed(int booking) {
        return bookings.isBooked(booking) && !bookings.isEquipment(booking)
                && lastCheckIn(booking) < now;
    }

    /** Ends a booking and its BOOKED equipment: how many wishes are booked by what that frees. */
    private int release(int booking, int ending) {
        bookings.turn(booking, ending);
        int granted = 0;
        for (int i = 0; i < bookings.turnedSize(); i++) {
            granted += serveWishes(bookings.turnedThing(i));
        }
        return granted;
    }

    /** One pass is enough: a booking more never lets a wish be that might not be before. */
    private int serveWishes(int thing) {
        int served = 0;
        int at = 0;
        for (int left = wishes.size(); left > 0; left--) {
            if (wishes.thingOf(at) == thing && tryBooking(wishes.personOf(at), thing,
                    wishes.fromOf(at), wishes.toOf(at)) > 0) {
                wishes.removeAt(at);
                served++;
            } else {
                at++;
            }
        }
        return served;
    }

    /** The hours of each place on each weekday, and the holidays. */
    private static final class Calendar {
        private final int[] opens = new int[PLACES * WEEKDAYS];
        private final int[] closes = new int[PLACES * WEEKDAYS];
        private final boolean[] holidays = new boolean[DAYS];
        private int holidayCount = 0;

        void setHours(int place, int weekday, int from, int to) {
            int row = place * WEEKDAYS + weekday;
            opens[row] = from;
            closes[row] = to;
        }

        boolean isHoliday(int day) {
            return holidays[day];
        }

        boolean isFull() {
            return holidayCount >= MOST_HOLIDAYS;
        }

        int addHoliday(int day) {
            holidays[day] = true;
            holidayCount++;
            return holidayCount;
        }

        /** No hours are 0 to 0, and nothing of a minute or more lies in these. */
        boolean isOpen(int place, int from, int to) {
            int day = from / DAY_MINUTES;
            int midnight = day * DAY_MINUTES;
            int row = place * WEEKDAYS + day % WEEKDAYS;
            return !holidays[day] && from - midnight >= opens[row] && to - midnight <= closes[row];
        }
    }

    /** The things with their places and rules. */
    private static final class Things {
        private final int[] places = new int[MOST_THINGS];
        private final int[] leasts = new int[MOST_THINGS];
        private final int[] mosts = new int[MOST_THINGS];
        private final int[] aheads = new int[MOST_THINGS];
        private final int[] graces = new int[MOST_THINGS];
        private int count = 0;

        boolean has(int thing) {
            return thing >= 0 && thing < count;
        }

        boolean isFull() {
            return count >= MOST_THINGS;
        }

        int add(int place, int least, int most, int ahead, int grace) {
            int thing = count;
            places[thing] = place;
            leasts[thing] = least;
            mosts[thing] = most;
            aheads[thing] = ahead;
            graces[thing] = grace;
            count++;
            return thing;
        }

        int placeOf(int thing) {
            return places[thing];
        }

        boolean allowsLength(int thing, int minutes) {
            return leasts[thing] <= minutes && minutes <= mosts[thing];
        }

        int aheadOf(int thing) {
            return aheads[thing];
        }

        int graceOf(int thing) {
            return graces[thing];
        }
    }

    /** The bookings, in rows from 1 on as they are numbered: row 0 is never used. */
    private static final class Bookings {
        private final int[] persons = new int[MOST_BOOKINGS + 1];
        private final int[] things = new int[MOST_BOOKINGS + 1];
        private final int[] froms = new int[MOST_BOOKINGS + 1];
        private final int[] tos = new int[MOST_BOOKINGS + 1];
        private final int[] states = new int[MOST_BOOKINGS + 1];
        private final int[] hosts = new int[MOST_BOOKINGS + 1];
        private int count = 0;
        private final int[] turnedThings = new int[MOST_BOOKINGS];
        private int turnedCount = 0;

        int size() {
            return count;
        }

        boolean has(int booking) {
            return booking >= 1 && booking <= count;
        }

        boolean isFull() {
            return count >= MOST_BOOKINGS;
        }

        int add(int person, int thing, int from, int to, int host) {
            count++;
            persons[count] = person;
            things[count] = thing;
            froms[count] = from;
            tos[count] = to;
            states[count] = BOOKED;
            hosts[count] = host;
            return count;
        }

        int personOf(int booking) {
            return persons[booking];
        }

        int thingOf(int booking) {
            return things[booking];
        }

        int fromOf(int booking) {
            return froms[booking];
        }

        int toOf(int booking) {
            return tos[booking];
        }

        int stateOf(int booking) {
            return states[booking];
        }

        int hostOf(int booking) {
            return hosts[booking];
        }

        void setTimes(int booking, int from, int to) {
            froms[booking] = from;
            tos[booking] = to;
        }

        boolean isBooked(int booking) {
            return states[booking] == BOOKED;
        }

        boolean isBookedBy(int booking, int person) {
            return has(booking) && states[booking] == BOOKED && persons[booking] == person;
        }

        boolean lives(int booking) {
            return states[booking] == BOOKED || states[booking] == IN;
        }

        boolean isEquipment(int booking) {
            return hosts[booking] != NO_BOOKING;
        }

        boolean hasLivingEquipment(int host) {
            for (int booking = 1; booking <= count; booking++) {
                if (hosts[booking] == host && lives(booking)) {
                    return true;
                }
            }
            return false;
        }

        boolean meets(int booking, int from, int to) {
            return froms[booking] < to && from < tos[booking];
        }

        boolean isTaken(int thing, int from, int to, int except) {
            for (int booking = 1; booking <= count; booking++) {
                if (booking != except && things[booking] == thing && lives(booking)
                        && meets(booking, from, to)) {
                    return true;
                }
            }
            return false;
        }

        int livingOf(int person) {
            int living = 0;
            for (int booking = 1; booking <= count; booking++) {
                if (persons[booking] == person && lives(booking)) {
                    living++;
                }
            }
            return living;
        }

        /** The living booking of a person that exactly so many others of it stand before. */
        int livingAt(int person, int before) {
            for (int booking = 1; booking <= count; booking++) {
                if (persons[booking] == person && lives(booking)
                        && livingBefore(booking) == before) {
                    return booking;
                }
            }
            return NO_BOOKING;
        }

        private int livingBefore(int booking) {
            int before = 0;
            for (int other = 1; other <= count; other++) {
                boolean isEarlier = froms[other] < froms[booking]
                        || (froms[other] == froms[booking] && other < booking);
                if (isEarlier && persons[other] == persons[booking] && lives(other)) {
                    before++;
                }
            }
            return before;
        }

        int doneMinutes(int thing) {
            int minutes = 0;
            for (int booking = 1; booking <= count; booking++) {
                if (things[booking] == thing && states[booking] == DONE) {
                    minutes += tos[booking] - froms[booking];
                }
            }
            return minutes;
        }

        void finish(int now) {
            for (int booking = 1; booking <= count; booking++) {
                if (states[booking] == IN && tos[booking] <= now) {
                    states[booking] = DONE;
                }
            }
        }

        /**
         * Gives a booking, and what BOOKED equipment goes with it, another state. The things of
         * all these are kept in their order: equipment that ended earlier must not free again.
         */
        void turn(int booking, int state) {
            turnedCount = 0;
            turnOne(booking, state);
            for (int other = 1; other <= count; other++) {
                if (hosts[other] == booking && states[other] == BOOKED) {
                    turnOne(other, state);
                }
            }
        }

        private void turnOne(int booking, int state) {
            states[booking] = state;
            if (turnedCount < turnedThings.length) {
                turnedThings[turnedCount] = things[booking];
                turnedCount++;
            }
        }

        int turnedSize() {
            return turnedCount;
        }

        int turnedThing(int i) {
            return turnedThings[i];
        }
    }

    /** The wishes that wait, kept by rank, those of one rank as they came. */
    private static final class Wishes {
        private final int[] persons = new int[MOST_WISHES];
        private final int[] things = new int[MOST_WISHES];
        private final int[] froms = new int[MOST_WISHES];
        private final int[] tos = new int[MOST_WISHES];
        private final int[] ranks = new int[MOST_WISHES];
        private int count = 0;

        int size() {
            return count;
        }

        boolean isFull() {
            return count >= MOST_WISHES;
        }

        int personOf(int at) {
            return persons[at];
        }

        int thingOf(int at) {
            return things[at];
        }

        int fromOf(int at) {
            return froms[at];
        }

        int toOf(int at) {
            return tos[at];
        }

        int countOf(int person) {
            int waiting = 0;
            for (int at = 0; at < count; at++) {
                if (persons[at] == person) {
                    waiting++;
                }
            }
            return waiting;
        }

        int add(int person, int thing, int from, int to, int rank) {
            int at = count;
            while (at > 0 && ranks[at - 1] > rank) {
                move(at - 1, at);
                at--;
            }
            persons[at] = person;
            things[at] = thing;
            froms[at] = from;
            tos[at] = to;
            ranks[at] = rank;
            count++;
            return count;
        }

        void removeAt(int at) {
            for (int next = at + 1; next < count; next++) {
                move(next, next - 1);
            }
            count--;
        }

        private void move(int source, int target) {
            persons[target] = persons[source];
            things[target] = things[source];
            froms[target] = froms[source];
            tos[target] = tos[source];
            ranks[target] = ranks[source];
        }
    }

    /** The no-shows of each person, and until when these bar it. */
    private static final class Penalties {
        private final int[] noShows = new int[PERSONS];
        private final int[] barredUntil = new int[PERSONS];

        int noShowsOf(int person) {
            return noShows[person];
        }

        boolean isBarred(int person, int now) {
            return now < barredUntil[person];
        }

        void countNoShow(int person, int now) {
            noShows[person]++;
            if (noShows[person] % NO_SHOWS_TO_BAR == 0) {
                barredUntil[person] = now + BAR_MINUTES;
            }
        }
    }
}
