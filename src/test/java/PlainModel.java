import java.util.ArrayList;
import java.util.Comparator;
import java.util.HashMap;
import java.util.List;
import java.util.Map;
import java.util.Set;
import java.util.TreeSet;

/** The document written a second time, with the Java library and without a thought of cost. */
final class PlainModel {
    private enum State { BOOKED, IN, DONE, CANCELLED, NO_SHOW }

    private record Thing(int number, int place, int least, int most, int ahead, int grace) { }

    private record Hours(int from, int to) { }

    private record Wish(int person, Thing thing, int from, int to, int rank) { }

    private static final class Booking {
        final int number;
        final int person;
        final Thing thing;
        final Booking with;
        int from;
        int to;
        State state = State.BOOKED;

        Booking(int number, int person, Thing thing, int from, int to, Booking with) {
            this.number = number;
            this.person = person;
            this.thing = thing;
            this.from = from;
            this.to = to;
            this.with = with;
        }

        boolean lives() {
            return state == State.BOOKED || state == State.IN;
        }

        boolean shares(Thing otherThing, int otherFrom, int otherTo) {
            return thing == otherThing && Math.max(from, otherFrom) < Math.min(to, otherTo);
        }
    }

    private final List<Thing> things = new ArrayList<>();
    private final Map<Integer, Hours> hours = new HashMap<>();
    private final Set<Integer> holidays = new TreeSet<>();
    private final List<Booking> bookings = new ArrayList<>();
    private final List<Wish> wishes = new ArrayList<>();
    private final Map<Integer, Integer> noShows = new HashMap<>();
    private final Map<Integer, Integer> barredUntil = new HashMap<>();
    private int now = 0;

    int thing(int place, int least, int most, int ahead, int grace) {
        if (place < 0 || place > 3 || least < 1 || least > 1440 || most < 1 || most > 1440
                || least > most || ahead < 0 || ahead > 100000 || grace < 0 || grace > 120
                || things.size() == 30) {
            return -1;
        }
        things.add(new Thing(things.size(), place, least, most, ahead, grace));
        return things.size() - 1;
    }

    int hours(int place, int weekday, int from, int to) {
        if (place < 0 || place > 3 || weekday < 0 || weekday > 6) {
            return 0;
        }
        if (from == 0 && to == 0) {
            hours.remove(place * 10 + weekday);
            return 1;
        }
        if (from < 0 || from >= to || to > 1440) {
            return 0;
        }
        hours.put(place * 10 + weekday, new Hours(from, to));
        return 1;
    }

    int holiday(int day) {
        if (day < 0 || day > 694 || holidays.size() == 40 || !holidays.add(day)) {
            return 0;
        }
        return holidays.size();
    }

    private Thing thingAt(int thing) {
        return thing >= 0 && thing < things.size() ? things.get(thing) : null;
    }

    private Booking bookingAt(int booking) {
        return booking >= 1 && booking <= bookings.size() ? bookings.get(booking - 1) : null;
    }

    private static boolean isPerson(int person) {
        return person >= 0 && person <= 39;
    }

    private boolean isBarred(int person) {
        return now < barredUntil.getOrDefault(person, 0);
    }

    private int whatItMayBe(int person, Thing thing, int from, int to, Booking itself) {
        if (from >= to || from < 0 || to < 0 || from > 1000000 || to > 1000000) {
            return -1;
        }
        if (to - from < thing.least || to - from > thing.most) {
            return -2;
        }
        if (from < now || from > now + thing.ahead) {
            return -3;
        }
        int day = from / 1440;
        Hours open = hours.get(thing.place * 10 + day % 7);
        if (open == null || holidays.contains(day) || from < day * 1440 + open.from
                || to > day * 1440 + open.to) {
            return -4;
        }
        long live = bookings.stream().filter(b -> b.person == person && b.lives()).count();
        if (itself == null && (isBarred(person) || live >= 5)) {
            return -5;
        }
        return clashes(thing, from, to, itself) ? -6 : 0;
    }

    private boolean clashes(Thing thing, int from, int to, Booking itself) {
        return bookings.stream().anyMatch(
                b -> b != itself && b.lives() && b.shares(thing, from, to));
    }

    private int make(int person, Thing thing, int from, int to, Booking with) {
        bookings.add(new Booking(bookings.size() + 1, person, thing, from, to, with));
        return bookings.size();
    }

    int book(int person, int thing, int from, int to) {
        Thing it = thingAt(thing);
        if (!isPerson(person) || it == null || bookings.size() == 200) {
            return 0;
        }
        int answer = whatItMayBe(person, it, from, to, null);
        return answer == 0 ? make(person, it, from, to, null) : answer;
    }

    int recurring(int booking, int days, int times) {
        Booking b = bookingAt(booking);
        if (b == null || !b.lives() || days < 1 || days > 60 || times < 1 || times > 20) {
            return 0;
        }
        int before = bookings.size();
        int from = b.from;
        int to = b.to;
        for (int time = 0; time < times && bookings.size() < 200; time++) {
            from += days * 1440;
            to += days * 1440;
            int answer = whatItMayBe(b.person, b.thing, from, to, null);
            if (answer == -3) {
                return bookings.size() - before;
            }
            if (answer == 0) {
                make(b.person, b.thing, from, to, null);
            }
        }
        return bookings.size() - before;
    }

    private boolean isBookedBy(Booking b, int person) {
        return b != null && b.state == State.BOOKED && b.person == person;
    }

    private List<Booking> bookedEquipmentOf(Booking b) {
        return bookings.stream().filter(e -> e.with == b && e.state == State.BOOKED).toList();
    }

    private int freed(Booking b, State state) {
        List<Booking> equipment = bookedEquipmentOf(b);
        b.state = state;
        equipment.forEach(e -> e.state = state);
        int made = serve(b.thing);
        for (Booking e : equipment) {
            made += serve(e.thing);
        }
        return made;
    }

    private int serve(Thing thing) {
        int made = 0;
        List<Wish> turns = new ArrayList<>(wishes);
        turns.removeIf(w -> w.thing != thing);
        turns.sort(Comparator.comparingInt(Wish::rank));
        for (Wish w : turns) {
            if (bookings.size() < 200 && whatItMayBe(w.person, thing, w.from, w.to, null) == 0) {
                make(w.person, thing, w.from, w.to, null);
                // Wishes may be equal, so the very one is taken out.
                wishes.removeIf(other -> other == w);
                made++;
            }
        }
        return made;
    }

    int cancel(int booking, int person) {
        Booking b = bookingAt(booking);
        if (!isBookedBy(b, person)) {
            return 0;
        }
        return now >= b.from ? -1 : 1 + freed(b, State.CANCELLED);
    }

    int checkIn(int booking, int person) {
        Booking b = bookingAt(booking);
        if (!isBookedBy(b, person)) {
            return 0;
        }
        if (now + 15 < b.from || now > b.from + b.thing.grace) {
            return -1;
        }
        bookedEquipmentOf(b).forEach(e -> e.state = State.IN);
        b.state = State.IN;
        return 1;
    }

    int edit(int booking, int person, int from, int to) {
        Booking b = bookingAt(booking);
        if (!isBookedBy(b, person) || b.with != null
                || bookings.stream().anyMatch(e -> e.with == b && e.lives())) {
            return 0;
        }
        int answer = whatItMayBe(person, b.thing, from, to, b);
        if (answer != 0) {
            return answer;
        }
        b.from = from;
        b.to = to;
        return 1;
    }

    int equip(int booking, int thing) {
        Booking b = bookingAt(booking);
        Thing it = thingAt(thing);
        if (b == null || b.state != State.BOOKED || b.with != null || it == null || it == b.thing
                || it.place != b.thing.place || bookings.size() == 200) {
            return 0;
        }
        return clashes(it, b.from, b.to, null) ? -6 : make(b.person, it, b.from, b.to, b);
    }

    int wish(int person, int thing, int from, int to, int rank) {
        Thing it = thingAt(thing);
        if (!isPerson(person) || it == null || wishes.size() == 60) {
            return 0;
        }
        if (whatItMayBe(person, it, from, to, null) != -6) {
            return -1;
        }
        wishes.add(new Wish(person, it, from, to, rank));
        return wishes.size();
    }

    int tick(int t) {
        if (t <= now || t > 1000000) {
            return -1;
        }
        now = t;
        for (Booking b : bookings) {
            if (b.state == State.IN && b.to <= now) {
                b.state = State.DONE;
            }
        }
        List<Booking> missed = bookings.stream().filter(b -> b.state == State.BOOKED
                && b.with == null && b.from + b.thing.grace < now).toList();
        for (Booking b : missed) {
            int count = noShows.merge(b.person, 1, Integer::sum);
            if (count % 3 == 0) {
                barredUntil.put(b.person, now + 10080);
            }
            freed(b, State.NO_SHOW);
        }
        return missed.size();
    }

    boolean clash(int a, int b) {
        Booking one = bookingAt(a);
        Booking other = bookingAt(b);
        return one != null && other != null && one.shares(other.thing, other.from, other.to);
    }

    int booking(int booking, int what) {
        Booking b = bookingAt(booking);
        if (b == null || what < 0 || what > 5) {
            return -1;
        }
        int with = b.with == null ? 0 : b.with.number;
        return new int[] {b.person, b.thing.number, b.from, b.to, b.state.ordinal(), with}[what];
    }

    int list(int person, int i) {
        List<Booking> live = bookings.stream().filter(b -> b.person == person && b.lives())
                .sorted(Comparator.<Booking>comparingInt(b -> b.from)
                        .thenComparingInt(b -> b.number)).toList();
        return i >= 0 && i < live.size() ? live.get(i).number : 0;
    }

    int person(int person, int what) {
        if (!isPerson(person) || what < 0 || what > 2) {
            return -1;
        }
        long waiting = wishes.stream().filter(w -> w.person == person).count();
        int barred = isBarred(person) ? 1 : 0;
        return new int[] {noShows.getOrDefault(person, 0), barred, (int) waiting}[what];
    }

    int used(int thing) {
        Thing it = thingAt(thing);
        return it == null ? -1 : bookings.stream()
                .filter(b -> b.thing == it && b.state == State.DONE)
                .mapToInt(b -> b.to - b.from).sum();
    }
}
