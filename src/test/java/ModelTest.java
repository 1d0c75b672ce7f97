import java.util.Arrays;
import java.util.Map;
import java.util.Random;
import java.util.TreeMap;

/** Random runs of 512 calls, each answer compared with the plain model's; the seeds are fixed. */
public final class ModelTest {
    private static final int RUNS = 5000;
    private static final int CALLS = 512;
    private static final int[] WILD = {
        Integer.MIN_VALUE, Integer.MIN_VALUE + 1, -1441, -2, -1, 0, 1, 2, 3, 4, 6, 7, 20, 21, 29,
        30, 39, 40, 41, 60, 61, 120, 121, 199, 200, 201, 694, 695, 1440, 1441, 99999, 100001,
        999999, 1000000, 1000001, Integer.MAX_VALUE - 1, Integer.MAX_VALUE
    };

    private final Due due;
    private final Random random;
    private final BookingRows rows = new BookingRows();
    private final PlainModel model = new PlainModel();
    private final Map<String, Integer> seen;
    private final boolean isCrowded;
    private final int persons;
    private final int things;
    private final int span;
    private final int wildness;
    private final int haste;
    private int now = 0;
    private int lastNoShow = 0;
    private int made = 0;
    private int calls = 0;

    private ModelTest(Due due, long seed, Map<String, Integer> seen) {
        this.due = due;
        this.random = new Random(seed);
        this.seen = seen;
        this.isCrowded = random.nextInt(5) == 0;
        this.persons = isCrowded ? 40 : 1 + random.nextInt(random.nextBoolean() ? 4 : 40);
        this.things = 1 + random.nextInt(isCrowded || random.nextInt(8) == 0 ? 30 : 5);
        this.span = isCrowded || random.nextInt(3) == 0 ? 20000 : 1200;
        this.wildness = !isCrowded && random.nextInt(4) == 0 ? 3 : 60;
        this.haste = 1 + random.nextInt(random.nextBoolean() ? 10 : 120);
    }

    public static void main(String[] args) {
        Due due = new Due();
        Map<String, Integer> seen = new TreeMap<>();
        for (int seed = 0; seed < RUNS && due.wrong() == 0; seed++) {
            due.promise("run with seed " + seed);
            new ModelTest(due, seed, seen).run();
        }
        everyAnswerWasSeen(due, seen);
        due.end();
    }

    /** Runs that never reach an answer would prove nothing of it. */
    private static void everyAnswerWasSeen(Due due, Map<String, Integer> seen) {
        due.promise("how often the runs saw it is above 100");
        String[] answers = {
            "thing -1", "thing +", "hours 0", "hours +", "holiday 0", "holiday +", "book 0",
            "book -1", "book -2", "book -3", "book -4", "book -5", "book -6", "book +",
            "recurring 0", "recurring +", "cancel -1", "cancel 0", "cancel +", "cancel ++",
            "checkIn -1", "checkIn 0", "checkIn +", "edit -1", "edit -2", "edit -3", "edit -4",
            "edit -6", "edit 0", "edit +", "equip -6", "equip 0", "equip +", "wish -1", "wish 0",
            "wish +", "tick -1", "tick 0", "tick +", "clash 0", "clash +", "list 0", "list +",
            "used -1", "used 0", "used +", "person -1", "person +", "booking -1", "booking +"
        };
        for (String answer : answers) {
            due.is(answer, true, seen.getOrDefault(answer, 0) > 100);
        }
        due.promise("the last call of a run, the " + CALLS + "th, was each at least once");
        for (String answer : answers) {
            String name = answer.substring(0, answer.indexOf(' '));
            due.is(name, true, seen.containsKey("the last was " + name));
        }
        due.promise("some runs came to it");
        for (String full : new String[] {"thing = 29", "holiday = 40", "wish = 60", "200 made"}) {
            due.is(full, true, seen.containsKey(full));
        }
    }

    private void run() {
        for (int thing = 0; thing < things; thing++) {
            thing();
        }
        for (int i = 0; i < 12; i++) {
            hours();
        }
        if (isCrowded) {
            crowd();
        }
        while (calls < CALLS && due.wrong() == 0) {
            any();
        }
        seen.merge(made + " made", 1, Integer::sum);
    }

    /** Only with most of their calls for it do runs come to 200 bookings, 60 wishes, 40 days. */
    private void crowd() {
        for (int weekday = 0; weekday < 7; weekday++) {
            hours(0, weekday, 0, 1440);
            hours(1, weekday, 0, 1440);
        }
        int holidays = random.nextInt(4) == 0 ? 60 : 0;
        boolean manyWishes = random.nextInt(3) == 0;
        int most = 300 + random.nextInt(200);
        while (calls < most && due.wrong() == 0) {
            switch (random.nextInt(manyWishes ? 12 : 8)) {
                case 0, 1: equip(); break;
                case 2, 3: recurring(); break;
                case 4, 5, 6: book(); break;
                default: wish(); break;
            }
            if (holidays > 0) {
                holidays--;
                holiday();
            }
        }
    }

    private void any() {
        switch (random.nextInt(32)) {
            case 0: rareCall(); break;
            case 1, 2, 3, 4, 5, 6: book(); break;
            case 7, 8: recurring(); break;
            case 9, 10, 11: cancel(); break;
            case 12, 13, 14: checkIn(); break;
            case 15, 16: edit(); break;
            case 17, 18, 19: equip(); break;
            case 20, 21, 22, 23: wish(); break;
            case 24, 25: tick(); break;
            case 26: clash(); break;
            case 27: person(); break;
            case 28, 29: list(); break;
            case 30: used(); break;
            default: booking(); break;
        }
    }

    private void rareCall() {
        switch (random.nextInt(4)) {
            case 0: thing(); break;
            case 1, 2: hours(); break;
            default: holiday(); break;
        }
    }

    private int orWild(int number) {
        return random.nextInt(wildness) == 0 ? WILD[random.nextInt(WILD.length)] : number;
    }

    private int aPerson() {
        return orWild(random.nextInt(persons));
    }

    private int aThing() {
        return orWild(random.nextInt(things));
    }

    /** Mostly one of the last, which still live. */
    private int aBooking() {
        int back = random.nextInt(3) == 0 ? Math.max(made, 1) : Math.min(Math.max(made, 1), 12);
        return orWild(made + 1 - random.nextInt(back + 1));
    }

    private int itsPerson(int booking) {
        return random.nextInt(12) == 0 ? aPerson() : model.booking(booking, 0);
    }

    /** In steps of ten, so that ends and beginnings often meet. */
    private int aFrom() {
        return orWild(Math.max(0, (now + random.nextInt(span) - 30) / 10 * 10));
    }

    private int aTo(int from) {
        return orWild(from + (1 + random.nextInt(random.nextInt(20) == 0 ? 150 : 15)) * 10);
    }

    private void answer(String name, String arguments, int want, int got) {
        calls++;
        due.is(name + arguments, want, got);
        String kind = want > 0 ? "+" : String.valueOf(want);
        seen.merge(name + " " + kind, 1, Integer::sum);
        seen.merge(name + " = " + want, 1, Integer::sum);
        if (name.equals("cancel") && want > 1) {
            seen.merge("cancel ++", 1, Integer::sum);
        }
        if (calls == CALLS) {
            seen.merge("the last was " + name, 1, Integer::sum);
        }
    }

    private static String text(int... arguments) {
        return Arrays.toString(arguments);
    }

    private void thing() {
        int place = orWild(random.nextInt(isCrowded ? 20 : 3) == 0 ? 1 : 0);
        int least = orWild(1 + random.nextInt(30));
        int most = orWild(100 + random.nextInt(1341));
        boolean isNear = !isCrowded && random.nextInt(3) == 0;
        int ahead = orWild(isNear ? random.nextInt(3000) : 100000);
        int grace = orWild(random.nextInt(121));
        answer("thing", text(place, least, most, ahead, grace),
                model.thing(place, least, most, ahead, grace),
                rows.thing(place, least, most, ahead, grace));
    }

    private void hours() {
        int place = orWild(random.nextInt(2));
        int weekday = orWild(random.nextInt(7));
        boolean none = random.nextInt(8) == 0;
        int from = orWild(none || random.nextBoolean() ? 0 : random.nextInt(60) * 10);
        int to = orWild(none ? 0 : random.nextBoolean() ? 1440 : 1440 - random.nextInt(90) * 10);
        hours(place, weekday, from, to);
    }

    private void hours(int place, int weekday, int from, int to) {
        answer("hours", text(place, weekday, from, to), model.hours(place, weekday, from, to),
                rows.hours(place, weekday, from, to));
    }

    private void holiday() {
        int day = orWild(now / 1440 + random.nextInt(isCrowded ? 300 : 30));
        answer("holiday", text(day), model.holiday(day), rows.holiday(day));
    }

    private void book() {
        int person = aPerson();
        int thing = aThing();
        int from = aFrom();
        int to = aTo(from);
        int want = model.book(person, thing, from, to);
        answer("book", text(person, thing, from, to), want, rows.book(person, thing, from, to));
        countMade();
    }

    /** Wishes too make bookings, so the count is asked of the model. */
    private void countMade() {
        while (model.booking(made + 1, 0) != -1) {
            made++;
        }
    }

    private void recurring() {
        int booking = aBooking();
        int days = orWild(1 + random.nextInt(random.nextBoolean() ? 7 : 62));
        int times = orWild(1 + random.nextInt(random.nextBoolean() ? 3 : 22));
        answer("recurring", text(booking, days, times), model.recurring(booking, days, times),
                rows.recurring(booking, days, times));
        countMade();
    }

    private void cancel() {
        int booking = aBooking();
        int person = itsPerson(booking);
        answer("cancel", text(booking, person), model.cancel(booking, person),
                rows.cancel(booking, person));
        countMade();
        lookAround();
    }

    private void checkIn() {
        int booking = aBooking();
        int person = itsPerson(booking);
        answer("checkIn", text(booking, person), model.checkIn(booking, person),
                rows.checkIn(booking, person));
    }

    private void edit() {
        int booking = aBooking();
        int person = itsPerson(booking);
        int from = aFrom();
        int to = aTo(from);
        answer("edit", text(booking, person, from, to), model.edit(booking, person, from, to),
                rows.edit(booking, person, from, to));
    }

    private void equip() {
        int booking = aBooking();
        int thing = aThing();
        answer("equip", text(booking, thing), model.equip(booking, thing),
                rows.equip(booking, thing));
        countMade();
    }

    private void wish() {
        int person = aPerson();
        int thing = aThing();
        int like = aBooking();
        boolean alike = random.nextInt(4) != 0 && model.booking(like, 1) != -1;
        int from = alike ? model.booking(like, 2) + random.nextInt(3) * 10 : aFrom();
        int to = alike ? orWild(model.booking(like, 3)) : aTo(from);
        int wanted = alike ? model.booking(like, 1) : thing;
        int rank = orWild(random.nextInt(5) - 2);
        answer("wish", text(person, wanted, from, to, rank),
                model.wish(person, wanted, from, to, rank),
                rows.wish(person, wanted, from, to, rank));
    }

    private void tick() {
        int t = now + random.nextInt(haste);
        if (random.nextInt(60) == 0) {
            t += random.nextInt(11000);
        }
        if (random.nextInt(30) == 0) {
            t = lastNoShow + 10079 + random.nextInt(3);
        }
        t = random.nextInt(20) == 0 ? WILD[random.nextInt(17)] : t;
        if (random.nextInt(2000) == 0) {
            t = 1000000 - random.nextInt(random.nextBoolean() ? 3 : 5000);
        }
        int want = model.tick(t);
        answer("tick", text(t), want, rows.tick(t));
        now = want == -1 ? now : t;
        lastNoShow = want > 0 ? t : lastNoShow;
        countMade();
        lookAround();
    }

    private void clash() {
        int a = aBooking();
        int b = aBooking();
        answer("clash", text(a, b), model.clash(a, b) ? 1 : 0, rows.clash(a, b) ? 1 : 0);
    }

    private void booking() {
        int booking = aBooking();
        int what = orWild(random.nextInt(8) - 1);
        answer("booking", text(booking, what), model.booking(booking, what),
                rows.booking(booking, what));
    }

    private void list() {
        int person = aPerson();
        int i = orWild(random.nextInt(7) - 1);
        answer("list", text(person, i), model.list(person, i), rows.list(person, i));
    }

    private void person() {
        int person = aPerson();
        int what = orWild(random.nextInt(5) - 1);
        answer("person", text(person, what), model.person(person, what),
                rows.person(person, what));
    }

    private void used() {
        int thing = aThing();
        answer("used", text(thing), model.used(thing), rows.used(thing));
    }

    /** What a cancel or a tick has done is looked at, as far as calls are left. */
    private void lookAround() {
        for (int back = 0; back < 4 && calls < CALLS; back++) {
            int booking = Math.max(1, made - back);
            answer("booking", text(booking, 4), model.booking(booking, 4),
                    rows.booking(booking, 4));
        }
        int person = random.nextInt(persons);
        for (int what = 0; what <= 2 && calls < CALLS; what++) {
            answer("person", text(person, what), model.person(person, what),
                    rows.person(person, what));
        }
    }
}
