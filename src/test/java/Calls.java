import java.util.ArrayList;
import java.util.List;
import java.util.function.Consumer;
import java.util.function.ToIntFunction;

/**
 * The calls on one object. They are counted, as nothing is promised of an object after its 512th,
 * and kept, so that they can be made again on a new one.
 */
final class Calls {
    static final int MOST = 512;

    private final BookingRows rows = new BookingRows();
    private final List<ToIntFunction<BookingRows>> made = new ArrayList<>();
    private int now = 0;

    /** A new object after the same calls. */
    Calls again() {
        Calls other = new Calls();
        made.forEach(other::call);
        other.now = now;
        return other;
    }

    int now() {
        return now;
    }

    int left() {
        return MOST - made.size();
    }

    private int call(ToIntFunction<BookingRows> call) {
        if (left() == 0) {
            throw new IllegalStateException("a test makes more than " + MOST + " calls");
        }
        made.add(call);
        return call.applyAsInt(rows);
    }

    /** Calls after the last one of which something is promised. */
    void later(Consumer<BookingRows> calls) {
        if (left() > 0) {
            throw new IllegalStateException("there are calls left");
        }
        calls.accept(rows);
    }

    int thing(int place, int least, int most, int ahead, int grace) {
        return call(x -> x.thing(place, least, most, ahead, grace));
    }

    int hours(int place, int weekday, int from, int to) {
        return call(x -> x.hours(place, weekday, from, to));
    }

    int holiday(int day) {
        return call(x -> x.holiday(day));
    }

    int book(int person, int thing, int from, int to) {
        return call(x -> x.book(person, thing, from, to));
    }

    int recurring(int booking, int days, int times) {
        return call(x -> x.recurring(booking, days, times));
    }

    int cancel(int booking, int person) {
        return call(x -> x.cancel(booking, person));
    }

    int checkIn(int booking, int person) {
        return call(x -> x.checkIn(booking, person));
    }

    int edit(int booking, int person, int from, int to) {
        return call(x -> x.edit(booking, person, from, to));
    }

    int equip(int booking, int thing) {
        return call(x -> x.equip(booking, thing));
    }

    int wish(int person, int thing, int from, int to, int rank) {
        return call(x -> x.wish(person, thing, from, to, rank));
    }

    int tick(int t) {
        int answer = call(x -> x.tick(t));
        now = answer == BookingRows.NONE ? now : t;
        return answer;
    }

    boolean clash(int a, int b) {
        return call(x -> x.clash(a, b) ? 1 : 0) == 1;
    }

    int booking(int booking, int what) {
        return call(x -> x.booking(booking, what));
    }

    int personOf(int booking) {
        return booking(booking, 0);
    }

    int thingOf(int booking) {
        return booking(booking, 1);
    }

    int fromOf(int booking) {
        return booking(booking, 2);
    }

    int toOf(int booking) {
        return booking(booking, 3);
    }

    int stateOf(int booking) {
        return booking(booking, 4);
    }

    int withOf(int booking) {
        return booking(booking, 5);
    }

    int list(int person, int i) {
        return call(x -> x.list(person, i));
    }

    int person(int person, int what) {
        return call(x -> x.person(person, what));
    }

    int noShows(int person) {
        return person(person, 0);
    }

    int barred(int person) {
        return person(person, 1);
    }

    int waiting(int person) {
        return person(person, 2);
    }

    int used(int thing) {
        return call(x -> x.used(thing));
    }
}
