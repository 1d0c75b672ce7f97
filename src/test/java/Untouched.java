import java.util.ArrayList;
import java.util.List;
import java.util.function.BiConsumer;
import java.util.function.ToIntFunction;

/**
 * Looks whether a call has left all as it was, as far as any later call can tell: the same later
 * calls are made on an object with that call and on one without it.
 */
final class Untouched {
    private record Look(String name, BiConsumer<Calls, List<Integer>> at) { }

    private static final List<Look> LOOKS = List.of(
            new Look("persons", Untouched::persons),
            new Look("bookings 1 to 50", (x, seen) -> bookings(x, seen, 1)),
            new Look("bookings 51 to 100", (x, seen) -> bookings(x, seen, 51)),
            new Look("bookings 101 to 150", (x, seen) -> bookings(x, seen, 101)),
            new Look("bookings 151 to 200", (x, seen) -> bookings(x, seen, 151)),
            new Look("things", Untouched::things),
            new Look("hours", Untouched::hours),
            new Look("holidays", Untouched::holidays),
            new Look("NOW", Untouched::now),
            new Look("wishes", Untouched::wishes),
            new Look("what comes later", Untouched::later));

    private Untouched() {
    }

    static void by(Due due, String name, int want, Calls scene, ToIntFunction<Calls> call) {
        due.is(name, want, call.applyAsInt(scene.again()));
        for (Look look : LOOKS) {
            Calls without = scene.again();
            Calls with = scene.again();
            call.applyAsInt(with);
            due.is(name + ", then " + look.name + " as without it", true,
                    seen(look, without).equals(seen(look, with)));
        }
    }

    private static List<Integer> seen(Look look, Calls x) {
        List<Integer> seen = new ArrayList<>();
        look.at.accept(x, seen);
        return seen;
    }

    private static void persons(Calls x, List<Integer> seen) {
        for (int person = 0; person < 40; person++) {
            for (int what = 0; what <= 2; what++) {
                seen.add(x.person(person, what));
            }
            for (int i = 0; i < 6; i++) {
                seen.add(x.list(person, i));
            }
        }
    }

    private static void bookings(Calls x, List<Integer> seen, int first) {
        for (int booking = first; booking < first + 50; booking++) {
            for (int what = 0; what <= 5; what++) {
                seen.add(x.booking(booking, what));
            }
        }
    }

    private static void things(Calls x, List<Integer> seen) {
        for (int thing = 0; thing <= 30; thing++) {
            seen.add(x.used(thing));
        }
        seen.add(x.thing(0, 1, 1, 0, 0));
    }

    private static void hours(Calls x, List<Integer> seen) {
        int[] minutes = {0, 99, 100, 470, 480, 1170, 1410};
        for (int day = 0; day < 7; day++) {
            int midnight = (x.now() / Scenes.DAY + 1 + day) * Scenes.DAY;
            for (int minute : minutes) {
                for (int thing = 0; thing < 5; thing++) {
                    seen.add(x.book(39, thing, midnight + minute, midnight + minute + 30));
                }
            }
        }
    }

    private static void holidays(Calls x, List<Integer> seen) {
        for (int day = 0; day <= 62; day++) {
            seen.add(x.holiday(day));
        }
        for (int day = 690; day <= 694; day++) {
            seen.add(x.holiday(day));
        }
    }

    private static void now(Calls x, List<Integer> seen) {
        int now = x.now();
        seen.add(x.tick(now));
        seen.add(x.tick(now + 1));
        seen.add(x.book(38, 4, now + 1, now + 31));
    }

    /** Which wishes wait, and in which order, is seen when all that can be cancelled is. */
    private static void wishes(Calls x, List<Integer> seen) {
        for (int booking = 1; booking <= 30; booking++) {
            seen.add(x.cancel(booking, x.personOf(booking)));
        }
        for (int booking = 1; booking <= 40; booking++) {
            for (int what = 0; what <= 4; what++) {
                seen.add(x.booking(booking, what));
            }
        }
        for (int person = 0; person < 40; person++) {
            seen.add(x.waiting(person));
        }
    }

    private static void later(Calls x, List<Integer> seen) {
        for (int later : new int[] {200, 2000, 9000, 10080}) {
            seen.add(x.tick(x.now() + later));
            for (int person = 0; person < 20; person++) {
                seen.add(x.noShows(person));
                seen.add(x.barred(person));
            }
        }
        for (int booking = 1; booking <= 30; booking++) {
            seen.add(x.stateOf(booking));
        }
    }
}
