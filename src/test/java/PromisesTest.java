/** Each promise of the document with ordinary inputs, the edges it names, and wrong inputs. */
public final class PromisesTest {
    private static final int DAY = Scenes.DAY;
    private static final int BOOKED = Scenes.BOOKED;
    private static final int IN = Scenes.IN;
    private static final int DONE = Scenes.DONE;
    private static final int CANCELLED = Scenes.CANCELLED;
    private static final int NO_SHOW = Scenes.NO_SHOW;

    private static final Due due = new Due();

    public static void main(String[] args) {
        newObject();
        thing();
        hours();
        holiday();
        book();
        bookInOrderOfReasons();
        bookHowMany();
        recurring();
        recurringEnds();
        cancel();
        cancelServesWishes();
        cancelServesEquipmentsWishes();
        checkIn();
        checkInOfEquipment();
        edit();
        equip();
        wish();
        tick();
        tickBars();
        tickWithEquipment();
        tickServesWishes();
        tickServesAtOnce();
        clash();
        booking();
        list();
        person();
        used();
        twoObjects();
        due.end();
    }

    /** Fills up to 200 bookings of thing 3 that are cancelled again, so that none of them lives. */
    private static void fillBookings(Calls x, int many) {
        for (int i = 0; i < many; i++) {
            int booking = x.book(39, 3, 50000, 50100);
            x.cancel(booking, 39);
        }
    }

    private static void newObject() {
        due.promise("1 new object");
        Calls x = new Calls();
        due.is("NONE", -1, BookingRows.NONE);
        due.is("used(0)", -1, x.used(0));
        due.is("booking(1, 0)", -1, x.booking(1, 0));
        due.is("booking(0, 0)", -1, x.booking(0, 0));
        due.is("list(0, 0)", 0, x.list(0, 0));
        due.is("person(0, 0)", 0, x.person(0, 0));
        due.is("person(0, 1)", 0, x.person(0, 1));
        due.is("person(0, 2)", 0, x.person(0, 2));
        due.is("book(0, 0, 0, 10)", 0, x.book(0, 0, 0, 10));
        due.is("tick(0)", -1, x.tick(0));
        due.is("thing", 0, x.thing(0, 1, 1440, 100000, 0));
        for (int day = 0; day < 7; day++) {
            due.is("book without hours", -4, x.book(0, 0, day * DAY, day * DAY + 1));
        }
        due.is("holiday", 1, x.holiday(0));
    }

    private static void thing() {
        due.promise("2 thing");
        Calls x = new Calls();
        due.is("place -1", -1, x.thing(-1, 1, 1, 0, 0));
        due.is("place 4", -1, x.thing(4, 1, 1, 0, 0));
        due.is("least 0", -1, x.thing(0, 0, 1, 0, 0));
        due.is("most 0", -1, x.thing(0, 0, 0, 0, 0));
        due.is("most 1441", -1, x.thing(0, 1, 1441, 0, 0));
        due.is("least above most", -1, x.thing(0, 2, 1, 0, 0));
        due.is("ahead -1", -1, x.thing(0, 1, 1, -1, 0));
        due.is("ahead 100001", -1, x.thing(0, 1, 1, 100001, 0));
        due.is("grace -1", -1, x.thing(0, 1, 1, 0, -1));
        due.is("grace 121", -1, x.thing(0, 1, 1, 0, 121));
        due.is("greatest", 0, x.thing(3, 1440, 1440, 100000, 120));
        due.is("least", 1, x.thing(0, 1, 1, 0, 0));
        for (int thing = 2; thing < 30; thing++) {
            due.is("thing more", thing, x.thing(thing % 4, 1, 1440, 1, 1));
        }
        due.is("a 31st", -1, x.thing(0, 1, 1, 0, 0));
        due.is("used(29)", 0, x.used(29));
        due.is("used(30)", -1, x.used(30));
    }

    private static void hours() {
        due.promise("3 hours");
        Calls x = new Calls();
        x.thing(0, 1, 1440, 100000, 0);
        x.thing(3, 1, 1440, 100000, 0);
        due.is("place -1", 0, x.hours(-1, 0, 1, 2));
        due.is("place 4", 0, x.hours(4, 0, 1, 2));
        due.is("weekday -1", 0, x.hours(0, -1, 1, 2));
        due.is("weekday 7", 0, x.hours(0, 7, 1, 2));
        due.is("from -1", 0, x.hours(0, 0, -1, 2));
        due.is("to 1441", 0, x.hours(0, 0, 1, 1441));
        due.is("from is to", 0, x.hours(0, 0, 2, 2));
        due.is("from above to", 0, x.hours(0, 0, 3, 2));
        due.is("from above 0", 0, x.hours(0, 0, 3, 0));
        due.is("both 1440", 0, x.hours(0, 0, 1440, 1440));
        due.is("still none", -4, x.book(0, 0, 1, 2));
        due.is("hours", 1, x.hours(0, 0, 100, 200));
        due.is("the whole", 1, x.book(0, 0, 100, 200));
        due.is("a minute early", -4, x.book(0, 0, 99, 200));
        due.is("a minute late", -4, x.book(0, 0, 100, 201));
        due.is("another weekday", -4, x.book(0, 0, DAY + 100, DAY + 200));
        due.is("same weekday", 2, x.book(0, 0, 7 * DAY + 100, 7 * DAY + 200));
        due.is("same weekday, early", -4, x.book(0, 0, 7 * DAY + 99, 7 * DAY + 100));
        due.is("same weekday, late", -4, x.book(0, 0, 7 * DAY + 200, 7 * DAY + 201));
        due.is("another place", -4, x.book(0, 1, 100, 200));
        due.is("last of both", 1, x.hours(3, 6, 0, 1440));
        due.is("last of both", 3, x.book(0, 1, 6 * DAY, 7 * DAY));
        due.is("over midnight", -4, x.book(1, 1, 7 * DAY - 1, 7 * DAY + 1));
        due.is("refused hours", 0, x.hours(0, 0, 200, 100));
        due.is("which change nothing", 4, x.book(0, 0, 14 * DAY + 100, 14 * DAY + 200));
        due.is("none", 1, x.hours(0, 0, 0, 0));
        due.is("closed now", -4, x.book(0, 0, 21 * DAY + 100, 21 * DAY + 200));
        due.is("closed at 0", -4, x.book(0, 0, 21 * DAY, 21 * DAY + 1));
        due.is("what is there stays", BOOKED, x.booking(1, 4));
    }

    private static void holiday() {
        due.promise("4 holiday");
        Calls x = Scenes.open();
        due.is("before", 1, x.book(0, 0, DAY, DAY + 10));
        due.is("-1", 0, x.holiday(-1));
        due.is("695", 0, x.holiday(695));
        due.is("1", 1, x.holiday(1));
        due.is("1 again", 0, x.holiday(1));
        due.is("694", 2, x.holiday(694));
        due.is("0", 3, x.holiday(0));
        due.is("what is there stays", BOOKED, x.booking(1, 4));
        due.is("on it", -4, x.book(0, 0, DAY + 100, DAY + 200));
        due.is("its last minutes", -4, x.book(0, 0, 2 * DAY - 10, 2 * DAY));
        due.is("the day behind it", 2, x.book(0, 0, 2 * DAY, 2 * DAY + 10));
        due.is("the same weekday", 3, x.book(0, 0, 8 * DAY, 8 * DAY + 10));
        for (int day = 4; day <= 40; day++) {
            due.is("one more", day, x.holiday(day * 2));
        }
        due.is("a 41st", 0, x.holiday(101));
        due.is("which is none", 4, x.book(0, 0, 7 * DAY, 7 * DAY + 10));
    }

    private static void book() {
        due.promise("5 book");
        Calls x = new Calls();
        x.thing(0, 30, 240, 2000, 20);
        x.hours(0, 0, 480, 1200);
        x.hours(0, 1, 480, 1200);
        due.is("person -1", 0, x.book(-1, 0, 480, 540));
        due.is("person 40", 0, x.book(40, 0, 480, 540));
        due.is("thing -1", 0, x.book(0, -1, 480, 540));
        due.is("thing 1", 0, x.book(0, 1, 480, 540));
        due.is("no thing before bad times", 0, x.book(0, 1, 5, 5));
        due.is("from -1", -1, x.book(0, 0, -1, 40));
        due.is("from above to", -1, x.book(0, 0, 540, 480));
        due.is("from is to", -1, x.book(0, 0, 540, 540));
        due.is("to above all times", -1, x.book(0, 0, 999990, 1000001));
        due.is("both far off", -1, x.book(0, 0, Integer.MIN_VALUE, Integer.MAX_VALUE));
        due.is("29 minutes", -2, x.book(0, 0, 480, 509));
        due.is("241 minutes", -2, x.book(0, 0, 480, 721));
        due.is("30 minutes", 1, x.book(39, 0, 480, 510));
        due.is("240 minutes", 2, x.book(0, 0, 510, 750));
        due.is("clash at the end", -6, x.book(1, 0, 749, 800));
        due.is("clash at the beginning", -6, x.book(1, 0, 480, 511));
        due.is("clash around", -6, x.book(1, 0, 500, 600));
        due.is("clash inside", -6, x.book(1, 0, 600, 700));
        due.is("behind it", 3, x.book(1, 0, 750, 800));
        due.is("as far ahead as may be", 4, x.book(1, 0, 2000, 2030));
        due.is("further", -3, x.book(1, 0, 2001, 2040));
        x.tick(100);
        due.is("as far ahead as may be", 5, x.book(1, 0, 2100, 2130));
        due.is("further", -3, x.book(1, 0, 2101, 2140));
        x.tick(900);
        due.is("before now", -3, x.book(1, 0, 899, 950));
        due.is("from now", 6, x.book(1, 0, 900, 950));

        Calls late = Scenes.open();
        late.tick(999000);
        due.is("to the last time", 1, late.book(0, 0, 999990, 1000000));
        due.is("behind it", -1, late.book(0, 1, 999991, 1000001));
    }

    private static void bookInOrderOfReasons() {
        due.promise("5 book, order of reasons");
        Calls x = new Calls();
        x.thing(0, 30, 100, 3000, 0);
        x.hours(0, 0, 480, 1200);
        x.hours(0, 1, 480, 1200);
        for (int i = 0; i < 5; i++) {
            due.is("five", i + 1, x.book(1, 0, 500 + i * 100, 600 + i * 100));
        }
        x.tick(490);
        due.is("-1 before -2", -1, x.book(1, 0, 480, 480));
        due.is("-2 before -3", -2, x.book(1, 0, 400, 410));
        due.is("-3 before -4", -3, x.book(1, 0, 400, 440));
        due.is("-3 before -4, ahead", -3, x.book(1, 0, 3500, 3550));
        due.is("-4 before -5", -4, x.book(1, 0, 1170, 1210));
        due.is("-5 before -6", -5, x.book(1, 0, 500, 600));
        due.is("-6", -6, x.book(2, 0, 500, 600));
        due.is("-4 before -6", -4, x.book(2, 0, 1120, 1210));
    }

    private static void bookHowMany() {
        due.promise("5 book, how many");
        Calls x = Scenes.open();
        for (int i = 0; i < 4; i++) {
            due.is("four", i + 1, x.book(1, 0, 100 + i * 100, 200 + i * 100));
        }
        due.is("equipment counts", 5, x.equip(1, 1));
        due.is("a sixth", -5, x.book(1, 2, 100, 200));
        due.is("equipment as a sixth may be", 6, x.equip(1, 2));
        due.is("a seventh", -5, x.book(1, 3, 100, 200));
        due.is("another person", 7, x.book(2, 3, 100, 200));
        due.is("cancel one", 1, x.cancel(2, 1));
        due.is("five are still there", -5, x.book(1, 3, 200, 300));
        due.is("cancel one more", 1, x.cancel(3, 1));
        due.is("a fifth", 8, x.book(1, 3, 200, 300));
        due.is("a sixth", -5, x.book(1, 3, 300, 400));

        Calls full = Scenes.open();
        fillBookings(full, 199);
        due.is("the 200th", 200, full.book(0, 0, 100, 200));
        due.is("a 201st", 0, full.book(0, 0, 200, 300));
        due.is("a 201st that may not be", 0, full.book(0, 0, 100, 200));
        due.is("booking(201, 0)", -1, full.booking(201, 0));
    }

    private static void recurring() {
        due.promise("6 recurring");
        Calls x = Scenes.open();
        due.is("none such", 0, x.recurring(1, 1, 1));
        x.book(7, 0, 100, 200);
        due.is("booking 0", 0, x.recurring(0, 1, 1));
        due.is("booking 2", 0, x.recurring(2, 1, 1));
        due.is("0 days", 0, x.recurring(1, 0, 1));
        due.is("61 days", 0, x.recurring(1, 61, 1));
        due.is("0 times", 0, x.recurring(1, 1, 0));
        due.is("21 times", 0, x.recurring(1, 1, 21));
        due.is("twice", 2, x.recurring(1, 2, 2));
        due.is("person", 7, x.booking(2, 0));
        due.is("thing", 0, x.booking(2, 1));
        due.is("from", 2 * DAY + 100, x.booking(2, 2));
        due.is("to", 2 * DAY + 200, x.booking(2, 3));
        due.is("state", BOOKED, x.booking(2, 4));
        due.is("with which it goes", 0, x.booking(2, 5));
        due.is("from", 4 * DAY + 100, x.booking(3, 2));
        due.is("clashes are left out", 1, x.recurring(1, 1, 2));
        due.is("from", DAY + 100, x.booking(4, 2));
        due.is("no more", -1, x.booking(5, 2));
        due.is("5 are the most", 1, x.recurring(4, 60, 20));
        due.is("from", 61 * DAY + 100, x.booking(5, 2));
        x.cancel(1, 7);
        due.is("cancelled", 0, x.recurring(1, 5, 1));
        x.tick(DAY + 100);
        x.checkIn(4, 7);
        due.is("one that is in", 1, x.recurring(4, 7, 1));
        due.is("from", 8 * DAY + 100, x.booking(6, 2));
    }

    private static void recurringEnds() {
        due.promise("6 recurring, its end");
        Calls x = new Calls();
        x.thing(0, 10, 1440, 3 * DAY, 0);
        x.hours(0, 0, 0, 1440);
        x.hours(0, 2, 0, 1440);
        x.hours(0, 3, 0, 1440);
        x.book(0, 0, 0, 100);
        due.is("closed days are left out, -3 ends it", 2, x.recurring(1, 1, 20));
        due.is("the last", 3 * DAY, x.booking(3, 2));
        due.is("no more", -1, x.booking(4, 2));

        Calls equipped = new Calls();
        equipped.thing(0, 1, 1440, 100000, 0);
        equipped.thing(0, 200, 300, 100000, 0);
        for (int weekday = 0; weekday < 7; weekday++) {
            equipped.hours(0, weekday, 0, 1440);
        }
        equipped.book(0, 0, 100, 200);
        equipped.equip(1, 1);
        due.is("equipment too short for its own rule", 0, equipped.recurring(2, 1, 3));
        due.is("its room", 2, equipped.recurring(1, 1, 2));
        due.is("without its equipment", 0, equipped.booking(4, 1));
        due.is("no more", -1, equipped.booking(5, 1));

        Calls full = Scenes.open();
        fillBookings(full, 197);
        full.book(0, 0, 100, 200);
        due.is("up to 200", 2, full.recurring(198, 1, 20));
        due.is("the 200th", 2 * DAY + 100, full.booking(200, 2));
        due.is("no more", 0, full.recurring(198, 3, 1));

        Calls late = Scenes.open();
        late.tick(998000);
        due.is("late", 1, late.book(0, 0, 998000, 998100));
        due.is("beyond all times", 1, late.recurring(1, 1, 20));
    }

    private static void cancel() {
        due.promise("7 cancel");
        Calls x = Scenes.open();
        due.is("none such", 0, x.cancel(1, 0));
        x.book(3, 0, 100, 200);
        x.book(3, 0, 200, 300);
        due.is("booking 0", 0, x.cancel(0, 3));
        due.is("booking -1", 0, x.cancel(-1, 3));
        due.is("booking 3", 0, x.cancel(3, 3));
        due.is("another person's", 0, x.cancel(1, 4));
        due.is("no such person", 0, x.cancel(1, 40));
        due.is("state", BOOKED, x.booking(1, 4));
        x.tick(99);
        due.is("a minute before", 1, x.cancel(1, 3));
        due.is("state", CANCELLED, x.booking(1, 4));
        due.is("again", 0, x.cancel(1, 3));
        x.tick(200);
        due.is("begun", -1, x.cancel(2, 3));
        due.is("begun, another person's", 0, x.cancel(2, 4));
        due.is("state", BOOKED, x.booking(2, 4));
        x.tick(210);
        due.is("begun earlier", -1, x.cancel(2, 3));
        x.checkIn(2, 3);
        due.is("in", 0, x.cancel(2, 3));
        x.book(3, 0, 300, 400);
        x.tick(290);
        x.checkIn(3, 3);
        due.is("in, before it begins", 0, x.cancel(3, 3));

        Calls equipped = Scenes.open();
        equipped.book(3, 0, 100, 200);
        equipped.equip(1, 1);
        equipped.equip(1, 2);
        due.is("equipment by itself", 1, equipped.cancel(2, 3));
        due.is("equipment", CANCELLED, equipped.booking(2, 4));
        due.is("its room", BOOKED, equipped.booking(1, 4));
        due.is("the other equipment", BOOKED, equipped.booking(3, 4));
        due.is("room", 1, equipped.cancel(1, 3));
        due.is("the other equipment", CANCELLED, equipped.booking(3, 4));

        Calls in = Scenes.open();
        in.book(3, 0, 100, 200);
        in.equip(1, 1);
        in.tick(90);
        in.checkIn(2, 3);
        due.is("room", 1, in.cancel(1, 3));
        due.is("equipment that is in stays", IN, in.booking(2, 4));
    }

    private static void cancelServesWishes() {
        due.promise("7 cancel, wishes");
        Calls x = Scenes.open();
        x.book(0, 0, 100, 400);
        x.book(0, 1, 100, 400);
        x.wish(1, 0, 100, 200, 5);
        x.wish(2, 0, 150, 250, 5);
        x.wish(3, 0, 250, 300, Integer.MIN_VALUE);
        x.wish(4, 0, 255, 265, -1);
        x.wish(5, 0, 300, 400, Integer.MAX_VALUE);
        x.wish(6, 1, 100, 200, 0);
        x.wish(7, 0, 100, 120, 6);
        x.wish(8, 0, 200, 250, 6);
        due.is("wishes booked", 5, x.cancel(1, 0));
        due.is("least rank first", 3, x.booking(3, 0));
        due.is("then, as they came", 1, x.booking(4, 0));
        due.is("of a higher rank", 8, x.booking(5, 0));
        due.is("of the highest", 5, x.booking(6, 0));
        due.is("no more", -1, x.booking(7, 0));
        due.is("from", 200, x.booking(5, 2));
        due.is("to", 250, x.booking(5, 3));
        due.is("state", BOOKED, x.booking(5, 4));
        due.is("with which it goes", 0, x.booking(5, 5));
        due.is("booked: waits no more", 0, x.person(3, 2));
        due.is("would clash: stays", 1, x.person(2, 2));
        due.is("would clash: stays", 1, x.person(4, 2));
        due.is("would clash: stays", 1, x.person(7, 2));
        due.is("of another thing: stays", 1, x.person(6, 2));
        due.is("served later", 2, x.cancel(3, 3));
        due.is("by its turn", 4, x.booking(7, 0));

        Calls once = Scenes.open();
        once.book(0, 0, 100, 200);
        once.wish(1, 0, 100, 200, 0);
        due.is("wish booked", 2, once.cancel(1, 0));
        due.is("a wish is booked once", 1, once.cancel(2, 1));

        Calls sixty = Scenes.open();
        sixty.book(0, 0, 100, 200);
        for (int i = 0; i < 60; i++) {
            sixty.wish(1 + i % 30, 0, 100, 200, 60 - i);
        }
        due.is("one of 60", 2, sixty.cancel(1, 0));
        due.is("the last of them, by its rank", 30, sixty.booking(2, 0));

        Calls elsewhere = Scenes.open();
        elsewhere.book(0, 0, 100, 200);
        elsewhere.book(0, 0, 500, 600);
        elsewhere.wish(1, 0, 100, 200, 0);
        elsewhere.edit(1, 0, 300, 400);
        due.is("an edit books none", 1, elsewhere.person(1, 2));
        due.is("any cancel of the thing does", 2, elsewhere.cancel(2, 0));

        Calls refused = Scenes.open();
        refused.book(0, 0, 1000, 1400);
        refused.wish(1, 0, 1000, 1100, 0);
        refused.wish(2, 0, 1100, 1200, 0);
        refused.wish(3, 0, 1200, 1300, 0);
        refused.hours(0, 0, 0, 1250);
        for (int i = 0; i < 5; i++) {
            refused.book(1, 1, 100 + i * 100, 200 + i * 100);
        }
        due.is("five bookings, and closed", 2, refused.cancel(1, 0));
        due.is("has five: stays", 1, refused.person(1, 2));
        due.is("may be", 0, refused.person(2, 2));
        due.is("closed: stays", 1, refused.person(3, 2));

        Calls full = Scenes.open();
        fillBookings(full, 198);
        full.book(0, 0, 100, 300);
        full.wish(1, 0, 100, 200, 0);
        full.wish(2, 0, 200, 300, 0);
        due.is("up to 200", 2, full.cancel(199, 0));
        due.is("no room: stays", 1, full.person(2, 2));

        Calls five = Scenes.open();
        five.book(0, 0, 100, 1000);
        for (int i = 0; i < 7; i++) {
            five.wish(1, 0, 100 + i * 100, 200 + i * 100, 0);
        }
        due.is("five of one person", 6, five.cancel(1, 0));
        due.is("two stay", 2, five.person(1, 2));
    }

    private static void cancelServesEquipmentsWishes() {
        due.promise("7 cancel, equipment's wishes");
        Calls x = Scenes.open();
        x.book(0, 2, 100, 200);
        x.equip(1, 3);
        x.equip(1, 0);
        x.equip(1, 1);
        x.wish(1, 0, 100, 200, 0);
        x.wish(2, 2, 100, 200, 9);
        x.wish(3, 3, 100, 200, 5);
        x.book(4, 1, 300, 400);
        due.is("equipment by itself", 1, x.cancel(4, 0));
        x.wish(5, 1, 300, 400, 0);
        x.edit(5, 4, 500, 600);
        due.is("wishes booked", 4, x.cancel(1, 0));
        due.is("its own thing's first", 2, x.booking(6, 0));
        due.is("then its equipment's by numbers", 3, x.booking(7, 0));
        due.is("then its equipment's by numbers", 1, x.booking(8, 0));
        due.is("what was cancelled earlier frees no more", 1, x.person(5, 2));

        Calls itself = Scenes.open();
        itself.book(0, 2, 100, 200);
        itself.equip(1, 3);
        itself.wish(1, 3, 100, 200, 0);
        itself.wish(1, 2, 100, 200, 0);
        due.is("equipment by itself", 2, itself.cancel(2, 0));
        due.is("its thing's wish", 3, itself.booking(3, 1));
        due.is("no other thing's", 1, itself.person(1, 2));
    }

    private static void checkIn() {
        due.promise("8 checkIn");
        Calls x = Scenes.open();
        due.is("none such", 0, x.checkIn(1, 0));
        x.book(3, 0, 100, 200);
        x.book(3, 0, 200, 300);
        x.book(3, 0, 300, 400);
        due.is("booking 0", 0, x.checkIn(0, 3));
        due.is("booking 4", 0, x.checkIn(4, 3));
        x.tick(84);
        due.is("another person's", 0, x.checkIn(1, 2));
        due.is("16 minutes before", -1, x.checkIn(1, 3));
        due.is("state", BOOKED, x.booking(1, 4));
        x.tick(85);
        due.is("another person's", 0, x.checkIn(1, 2));
        due.is("15 minutes before", 1, x.checkIn(1, 3));
        due.is("state", IN, x.booking(1, 4));
        due.is("again", 0, x.checkIn(1, 3));
        x.tick(220);
        due.is("grace behind", 1, x.checkIn(2, 3));
        x.cancel(3, 3);
        due.is("cancelled", 0, x.checkIn(3, 3));
        x.book(3, 0, 300, 400);
        x.tick(321);
        due.is("no-show", 0, x.checkIn(4, 3));

        Calls early = Scenes.open();
        early.book(0, 0, 10, 20);
        due.is("at 0", 1, early.checkIn(1, 0));
    }

    private static void checkInOfEquipment() {
        due.promise("8 checkIn, equipment");
        Calls x = new Calls();
        x.thing(0, 10, 1440, 100000, 60);
        x.thing(0, 10, 1440, 100000, 5);
        x.thing(0, 10, 1440, 100000, 70);
        x.hours(0, 0, 0, 1440);
        x.book(3, 0, 100, 200);
        x.equip(1, 1);
        x.equip(1, 2);
        x.book(4, 1, 200, 300);
        x.tick(100);
        due.is("by itself", 1, x.checkIn(3, 3));
        due.is("equipment", IN, x.booking(3, 4));
        due.is("its room", BOOKED, x.booking(1, 4));
        x.tick(105);
        due.is("another's", 0, x.checkIn(2, 4));
        x.tick(106);
        due.is("behind the grace of its own thing", -1, x.checkIn(2, 3));
        due.is("no no-show of its own", BOOKED, x.booking(2, 4));
        due.is("room", 1, x.checkIn(1, 3));
        due.is("equipment with it", IN, x.booking(2, 4));
        due.is("another booking", BOOKED, x.booking(4, 4));

        Calls gone = Scenes.open();
        gone.book(3, 0, 100, 200);
        gone.equip(1, 1);
        gone.cancel(2, 3);
        gone.tick(90);
        due.is("room", 1, gone.checkIn(1, 3));
        due.is("cancelled equipment stays so", CANCELLED, gone.booking(2, 4));
    }

    private static void edit() {
        due.promise("9 edit");
        Calls x = new Calls();
        x.thing(0, 30, 100, 3000, 20);
        x.thing(0, 30, 100, 3000, 20);
        x.hours(0, 0, 100, 1200);
        due.is("none such", 0, x.edit(1, 0, 100, 200));
        x.book(0, 0, 100, 200);
        x.book(0, 0, 200, 300);
        due.is("booking 0", 0, x.edit(0, 0, 300, 400));
        due.is("booking 3", 0, x.edit(3, 0, 300, 400));
        due.is("another person's", 0, x.edit(1, 1, 300, 400));
        due.is("not a person's", 0, x.edit(1, -1, 300, 400));
        due.is("-1", -1, x.edit(1, 0, 400, 300));
        due.is("-1", -1, x.edit(1, 0, Integer.MIN_VALUE, Integer.MAX_VALUE));
        due.is("-2", -2, x.edit(1, 0, 300, 329));
        due.is("-3", -3, x.edit(1, 0, 3001, 3050));
        due.is("-4", -4, x.edit(1, 0, 1150, 1201));
        due.is("-6", -6, x.edit(1, 0, 150, 250));
        due.is("as it was", 100, x.booking(1, 2));
        due.is("over itself", 1, x.edit(1, 0, 110, 200));
        due.is("from", 110, x.booking(1, 2));
        due.is("to", 200, x.booking(1, 3));
        due.is("state", BOOKED, x.booking(1, 4));
        for (int i = 3; i < 6; i++) {
            x.book(0, 0, i * 100, 100 + i * 100);
        }
        due.is("five live", -5, x.book(0, 0, 900, 1000));
        due.is("not asked in an edit", 1, x.edit(1, 0, 900, 1000));
        x.tick(210);
        due.is("begun: may be later", 1, x.edit(2, 0, 210, 290));
        due.is("-3", -3, x.edit(2, 0, 209, 290));
        x.checkIn(2, 0);
        due.is("in", 0, x.edit(2, 0, 700, 800));
        x.cancel(3, 0);
        due.is("cancelled", 0, x.edit(3, 0, 700, 800));

        Calls equipped = Scenes.open();
        equipped.book(0, 0, 100, 200);
        equipped.equip(1, 1);
        due.is("with equipment", 0, equipped.edit(1, 0, 300, 400));
        due.is("equipment", 0, equipped.edit(2, 0, 300, 400));
        equipped.tick(90);
        equipped.checkIn(2, 0);
        due.is("with equipment that is in", 0, equipped.edit(1, 0, 300, 400));
        equipped.book(0, 2, 300, 400);
        equipped.equip(3, 3);
        equipped.cancel(4, 0);
        due.is("with equipment no more", 1, equipped.edit(3, 0, 500, 600));
        due.is("cancelled equipment", 0, equipped.edit(4, 0, 500, 600));

        Calls barred = barred(5);
        due.is("barred", -5, barred.book(5, 0, 900, 1000));
        due.is("not asked in an edit", 1, barred.edit(4, 5, 1000, 1100));
    }

    /** A person that is barred at 500 by bookings 1 to 3, and has booking 4 from 800 to 900. */
    private static Calls barred(int person) {
        Calls x = Scenes.open();
        x.book(person, 0, 100, 200);
        x.book(person, 0, 200, 300);
        x.book(person, 0, 300, 400);
        x.book(person, 0, 800, 900);
        x.tick(500);
        return x;
    }

    private static void equip() {
        due.promise("10 equip");
        Calls x = new Calls();
        x.thing(0, 10, 1440, 100000, 20);
        x.thing(0, 500, 600, 0, 20);
        x.thing(1, 10, 1440, 100000, 20);
        x.thing(0, 10, 20, 0, 20);
        x.hours(0, 0, 0, 1440);
        due.is("none such", 0, x.equip(1, 1));
        x.book(3, 0, 100, 200);
        due.is("booking 0", 0, x.equip(0, 1));
        due.is("booking 2", 0, x.equip(2, 1));
        due.is("the same thing", 0, x.equip(1, 0));
        due.is("elsewhere", 0, x.equip(1, 2));
        due.is("thing -1", 0, x.equip(1, -1));
        due.is("thing 4", 0, x.equip(1, 4));
        due.is("whatever its rules", 2, x.equip(1, 1));
        due.is("person", 3, x.booking(2, 0));
        due.is("thing", 1, x.booking(2, 1));
        due.is("from", 100, x.booking(2, 2));
        due.is("to", 200, x.booking(2, 3));
        due.is("state", BOOKED, x.booking(2, 4));
        due.is("with which it goes", 1, x.booking(2, 5));
        due.is("clash", -6, x.equip(1, 1));
        due.is("equipment itself", 0, x.equip(2, 3));
        x.book(4, 0, 200, 300);
        due.is("behind it", 4, x.equip(3, 1));
        x.cancel(4, 4);
        due.is("cancelled equipment does not clash", 5, x.equip(3, 1));
        x.hours(0, 0, 0, 0);
        x.tick(100);
        due.is("begun, closed", 6, x.equip(1, 3));
        x.checkIn(1, 3);
        x.cancel(6, 3);
        due.is("in", 0, x.equip(1, 3));
        x.cancel(3, 4);
        due.is("cancelled", 0, x.equip(3, 3));

        Calls full = Scenes.open();
        fillBookings(full, 198);
        full.book(0, 0, 100, 200);
        full.book(0, 1, 100, 200);
        due.is("there are 200", 0, full.equip(199, 2));
        due.is("there are 200 before -6", 0, full.equip(199, 1));

        Calls barred = barred(5);
        due.is("barred", 5, barred.equip(4, 1));
    }

    private static void wish() {
        due.promise("11 wish");
        Calls x = Scenes.open();
        x.book(0, 0, 100, 200);
        due.is("person -1", 0, x.wish(-1, 0, 100, 200, 0));
        due.is("person 40", 0, x.wish(40, 0, 100, 200, 0));
        due.is("thing -1", 0, x.wish(0, -1, 100, 200, 0));
        due.is("thing 5", 0, x.wish(0, 5, 100, 200, 0));
        due.is("may be booked", -1, x.wish(1, 0, 200, 300, 0));
        due.is("-1", -1, x.wish(1, 0, 200, 200, 0));
        due.is("-2", -1, x.wish(1, 0, 100, 109, 0));
        due.is("-3", -1, x.wish(1, 0, 200000, 200100, 0));
        x.holiday(0);
        due.is("-4", -1, x.wish(1, 0, 100, 200, 0));
        due.is("none waits", 0, x.person(1, 2));

        Calls y = Scenes.open();
        y.book(0, 0, 100, 200);
        for (int i = 0; i < 5; i++) {
            y.book(1, 1, 100 + i * 100, 200 + i * 100);
        }
        due.is("-5", -1, y.wish(1, 0, 100, 200, 0));
        for (int i = 1; i <= 60; i++) {
            due.is("how many wait in all", i, y.wish(2 + i % 2, i % 2, 100, 200, -i));
        }
        due.is("60 wait", 0, y.wish(2, 0, 100, 200, 0));
        due.is("60 wait, may be booked", 0, y.wish(2, 0, 800, 900, 0));
        due.is("of one person", 30, y.person(2, 2));
        due.is("of one person", 30, y.person(3, 2));
        due.is("one is booked", 2, y.cancel(1, 0));
        due.is("59 wait", 60, y.wish(2, 0, 100, 200, 0));
        due.is("a barred one", -1, barred(5).wish(5, 0, 800, 900, 0));
    }

    private static void tick() {
        due.promise("12 tick");
        Calls x = Scenes.open();
        due.is("0", -1, x.tick(0));
        due.is("-1", -1, x.tick(-1));
        due.is("1000001", -1, x.tick(1000001));
        x.book(0, 0, 100, 200);
        x.book(1, 1, 100, 200);
        x.book(1, 2, 130, 150);
        x.book(2, 0, 300, 400);
        x.tick(100);
        x.checkIn(2, 1);
        due.is("as late as grace", 0, x.tick(120));
        due.is("state", BOOKED, x.booking(1, 4));
        due.is("not later", -1, x.tick(120));
        due.is("earlier", -1, x.tick(119));
        due.is("later than grace", 1, x.tick(121));
        due.is("state", NO_SHOW, x.booking(1, 4));
        due.is("no-shows", 1, x.person(0, 0));
        due.is("another's", 0, x.person(1, 0));
        due.is("its thing is free", 5, x.book(0, 0, 150, 200));
        x.checkIn(3, 1);
        due.is("before the end", 0, x.tick(149));
        due.is("state", IN, x.booking(3, 4));
        due.is("at the end", 0, x.tick(150));
        due.is("state", DONE, x.booking(3, 4));
        due.is("state", IN, x.booking(2, 4));
        due.is("two at once", 2, x.tick(400));
        due.is("done", DONE, x.booking(2, 4));
        due.is("no-show", NO_SHOW, x.booking(4, 4));
        due.is("no-show", NO_SHOW, x.booking(5, 4));
        due.is("no-shows", 2, x.person(0, 0));
        due.is("above all, nothing happens", -1, x.tick(1000001));
        due.is("far above, nothing happens", -1, x.tick(Integer.MAX_VALUE));
        due.is("still 400", 6, x.book(0, 0, 400, 500));
        due.is("the last time", 1, x.tick(1000000));
        due.is("and no later", -1, x.tick(1000000));
    }

    private static void tickBars() {
        due.promise("12 tick, barred");
        Calls x = Scenes.open();
        x.book(5, 0, 100, 200);
        x.book(5, 0, 200, 300);
        x.tick(250);
        due.is("two", 0, x.person(5, 1));
        x.book(5, 0, 300, 400);
        due.is("the third", 1, x.tick(500));
        due.is("barred", 1, x.person(5, 1));
        due.is("another", 0, x.person(4, 1));
        due.is("book", -5, x.book(5, 0, 600, 700));
        x.tick(10579);
        due.is("the last minute", 1, x.person(5, 1));
        due.is("book", -5, x.book(5, 0, 10600, 10700));
        x.tick(10580);
        due.is("10080 behind", 0, x.person(5, 1));
        for (int i = 0; i < 5; i++) {
            due.is("book", 4 + i, x.book(5, 0, 10600 + i * 100, 10700 + i * 100));
        }
        due.is("fourth and fifth", 2, x.tick(10750));
        due.is("not barred", 0, x.person(5, 1));
        due.is("sixth to eighth", 3, x.tick(11100));
        due.is("barred", 1, x.person(5, 1));
        due.is("no-shows", 8, x.person(5, 0));
        x.tick(21179);
        due.is("from when it was seen", 1, x.person(5, 1));
        x.tick(21180);
        due.is("no longer", 0, x.person(5, 1));
    }

    private static void tickWithEquipment() {
        due.promise("12 tick, equipment");
        Calls x = new Calls();
        x.thing(0, 10, 1440, 100000, 60);
        x.thing(0, 10, 1440, 100000, 0);
        x.thing(0, 10, 1440, 100000, 120);
        x.thing(0, 10, 1440, 100000, 0);
        x.hours(0, 0, 0, 1440);
        x.book(3, 0, 100, 200);
        x.equip(1, 1);
        x.equip(1, 2);
        x.equip(1, 3);
        x.tick(100);
        x.checkIn(4, 3);
        due.is("equipment is none of its own", 0, x.tick(160));
        due.is("equipment", BOOKED, x.booking(2, 4));
        due.is("with its room", 1, x.tick(161));
        due.is("room", NO_SHOW, x.booking(1, 4));
        due.is("equipment", NO_SHOW, x.booking(2, 4));
        due.is("equipment of longer grace", NO_SHOW, x.booking(3, 4));
        due.is("equipment that is in", IN, x.booking(4, 4));
        due.is("counts once", 1, x.person(3, 0));
        due.is("its thing is free", 5, x.book(4, 1, 170, 190));
        due.is("that of what is in is not", -6, x.book(4, 3, 170, 190));
        x.tick(200);
        due.is("done by itself", DONE, x.booking(4, 4));
        due.is("minutes", 100, x.used(3));
        due.is("minutes", 0, x.used(1));

        Calls cancelled = Scenes.open();
        cancelled.book(3, 0, 100, 200);
        cancelled.equip(1, 1);
        cancelled.cancel(2, 3);
        due.is("room", 1, cancelled.tick(161));
        due.is("cancelled equipment stays so", CANCELLED, cancelled.booking(2, 4));
    }

    private static void tickServesWishes() {
        due.promise("12 tick, wishes");
        Calls x = Scenes.open();
        x.book(0, 2, 100, 400);
        x.equip(1, 3);
        x.equip(1, 0);
        x.wish(1, 0, 200, 300, 0);
        x.wish(2, 2, 121, 200, 9);
        x.wish(3, 2, 100, 200, 1);
        x.wish(4, 3, 200, 300, 5);
        x.wish(5, 2, 150, 250, 8);
        due.is("no-show", 1, x.tick(121));
        due.is("its own thing's first", 5, x.booking(4, 0));
        due.is("then its equipment's by numbers", 4, x.booking(5, 0));
        due.is("then its equipment's by numbers", 1, x.booking(6, 0));
        due.is("no more", -1, x.booking(7, 0));
        due.is("would clash: stays", 1, x.person(2, 2));
        due.is("before now: stays", 1, x.person(3, 2));
        due.is("no-shows by wishes just booked", 0, x.person(5, 0));

        Calls now = Scenes.open();
        now.book(0, 0, 100, 400);
        now.wish(1, 0, 121, 200, 0);
        due.is("no-show", 1, now.tick(121));
        due.is("from now", 1, now.booking(2, 0));
        due.is("state", BOOKED, now.booking(2, 4));

        Calls done = Scenes.open();
        done.book(0, 0, 100, 400);
        done.wish(1, 0, 300, 400, 0);
        done.tick(100);
        done.checkIn(1, 0);
        done.tick(500);
        due.is("one that is done frees none", 1, done.person(1, 2));
    }

    private static void tickServesAtOnce() {
        due.promise("12 tick, one after the other");
        Calls x = Scenes.open();
        x.book(0, 0, 100, 900);
        for (int i = 0; i < 5; i++) {
            x.book(1, 1, 100 + i * 10, 110 + i * 10);
        }
        x.book(2, 2, 100, 800);
        x.cancel(6, 1);
        x.wish(1, 0, 300, 400, 0);
        x.wish(1, 0, 400, 500, 0);
        x.wish(1, 2, 300, 400, 0);
        due.is("no-shows", 6, x.tick(160));
        due.is("one as a fifth, before its no-shows", 0, x.booking(8, 1));
        due.is("after its third no-show none", -1, x.booking(9, 1));
        due.is("barred: stays", 2, x.person(1, 2));
        due.is("no-shows", 4, x.person(1, 0));

        Calls own = Scenes.open();
        own.book(1, 0, 100, 900);
        own.book(1, 1, 100, 900);
        own.book(1, 2, 100, 900);
        own.wish(1, 0, 300, 400, 0);
        own.wish(1, 1, 300, 400, 0);
        own.wish(1, 2, 300, 400, 0);
        due.is("no-shows", 3, own.tick(150));
        due.is("barred before its third thing is freed", 1, own.person(1, 2));
        due.is("two were booked", 1, own.booking(5, 1));
        due.is("not the third", -1, own.booking(6, 1));

        Calls ends = Scenes.open();
        ends.book(1, 0, 200, 300);
        ends.book(2, 1, 100, 900);
        for (int i = 0; i < 4; i++) {
            ends.book(1, 0, 500 + i * 20, 520 + i * 20);
        }
        ends.tick(110);
        ends.checkIn(2, 2);
        ends.tick(200);
        ends.checkIn(1, 1);
        ends.book(3, 2, 200, 900);
        due.is("a sixth", -5, ends.book(1, 2, 400, 500));
        ends.cancel(6, 1);
        due.is("a wish as a fifth", 1, ends.wish(1, 2, 400, 500, 0));
        due.is("five again", 8, ends.book(1, 0, 700, 800));
        due.is("no-show", 1, ends.tick(300));
        due.is("done before: the wish is a fifth", 2, ends.booking(9, 1));
    }

    private static void clash() {
        due.promise("13 clash");
        Calls x = Scenes.open();
        due.is("none there", false, x.clash(1, 1));
        x.book(0, 0, 100, 200);
        x.book(1, 0, 200, 300);
        x.book(2, 1, 100, 300);
        due.is("the same", true, x.clash(1, 1));
        due.is("one behind the other", false, x.clash(1, 2));
        due.is("of another thing", false, x.clash(1, 3));
        due.is("booking 0", false, x.clash(0, 1));
        due.is("booking 0", false, x.clash(1, 0));
        due.is("both 0", false, x.clash(0, 0));
        due.is("booking 4", false, x.clash(1, 4));
        due.is("booking 4", false, x.clash(4, 1));
        x.cancel(1, 0);
        x.book(3, 0, 150, 200);
        due.is("had both to live", true, x.clash(1, 4));
        due.is("had both to live", true, x.clash(4, 1));
        due.is("the same", true, x.clash(1, 1));
        due.is("one behind the other", false, x.clash(2, 4));
    }

    private static void booking() {
        due.promise("14 booking");
        Calls x = Scenes.open();
        x.book(6, 2, 100, 250);
        x.equip(1, 3);
        due.is("person", 6, x.booking(1, 0));
        due.is("thing", 2, x.booking(1, 1));
        due.is("from", 100, x.booking(1, 2));
        due.is("to", 250, x.booking(1, 3));
        due.is("state", BOOKED, x.booking(1, 4));
        due.is("with which it goes", 0, x.booking(1, 5));
        due.is("equipment", 1, x.booking(2, 5));
        due.is("what -1", -1, x.booking(1, -1));
        due.is("what 6", -1, x.booking(1, 6));
        due.is("booking 0", -1, x.booking(0, 0));
        due.is("booking -1", -1, x.booking(-1, 0));
        due.is("booking 3", -1, x.booking(3, 0));
        due.is("booking 201", -1, x.booking(201, 4));
        due.is("far off", -1, x.booking(Integer.MAX_VALUE, 0));
    }

    private static void list() {
        due.promise("15 list");
        Calls x = Scenes.open();
        x.book(6, 0, 500, 600);
        x.book(6, 1, 300, 400);
        x.book(6, 2, 500, 550);
        x.book(7, 3, 100, 200);
        x.book(6, 3, 200, 300);
        x.equip(2, 0);
        due.is("0", 5, x.list(6, 0));
        due.is("1", 2, x.list(6, 1));
        due.is("2", 6, x.list(6, 2));
        due.is("3", 1, x.list(6, 3));
        due.is("4", 3, x.list(6, 4));
        due.is("5", 0, x.list(6, 5));
        due.is("-1", 0, x.list(6, -1));
        due.is("far off", 0, x.list(6, Integer.MAX_VALUE));
        due.is("another person", 4, x.list(7, 0));
        due.is("another person", 0, x.list(7, 1));
        due.is("one without", 0, x.list(8, 0));
        due.is("person -1", 0, x.list(-1, 0));
        due.is("person 40", 0, x.list(40, 0));
        x.cancel(2, 6);
        due.is("cancelled", 1, x.list(6, 1));
        x.edit(3, 6, 100, 150);
        due.is("edited", 3, x.list(6, 0));
        x.tick(100);
        x.checkIn(3, 6);
        due.is("in", 3, x.list(6, 0));
        x.tick(150);
        due.is("done", 5, x.list(6, 0));
        x.tick(221);
        due.is("no-show", 1, x.list(6, 0));
        due.is("no more", 0, x.list(6, 1));
    }

    private static void person() {
        due.promise("16 person");
        Calls x = barred(5);
        due.is("no-shows", 3, x.person(5, 0));
        due.is("barred", 1, x.person(5, 1));
        due.is("wishes", 0, x.person(5, 2));
        x.wish(39, 0, 800, 900, 1);
        x.wish(39, 0, 810, 900, 2);
        x.wish(0, 0, 810, 900, 2);
        due.is("wishes", 2, x.person(39, 2));
        due.is("wishes", 1, x.person(0, 2));
        due.is("no-shows", 0, x.person(39, 0));
        due.is("barred", 0, x.person(39, 1));
        due.is("what -1", -1, x.person(5, -1));
        due.is("what 3", -1, x.person(5, 3));
        due.is("person -1", -1, x.person(-1, 0));
        due.is("person 40", -1, x.person(40, 0));
        x.cancel(4, 5);
        due.is("wishes", 1, x.person(39, 2));
    }

    private static void used() {
        due.promise("17 used");
        Calls x = Scenes.open();
        due.is("thing -1", -1, x.used(-1));
        due.is("thing 5", -1, x.used(5));
        due.is("thing 4", 0, x.used(4));
        x.book(0, 0, 100, 200);
        x.equip(1, 1);
        x.book(1, 0, 200, 250);
        x.book(2, 0, 300, 400);
        x.tick(100);
        x.checkIn(1, 0);
        x.tick(199);
        due.is("in", 0, x.used(0));
        x.tick(200);
        due.is("done", 100, x.used(0));
        due.is("equipment", 100, x.used(1));
        due.is("another thing", 0, x.used(2));
        x.checkIn(3, 1);
        x.tick(330);
        due.is("in all", 150, x.used(0));
        due.is("a no-show", NO_SHOW, x.booking(4, 4));
        x.book(2, 0, 340, 370);
        x.checkIn(5, 2);
        x.tick(370);
        due.is("the last booking", 180, x.used(0));
    }

    private static void twoObjects() {
        due.promise("1 new object, apart from others");
        Calls x = Scenes.open();
        x.book(0, 0, 100, 200);
        x.holiday(3);
        x.tick(500);
        Calls y = new Calls();
        due.is("no things", -1, y.used(0));
        due.is("no bookings", -1, y.booking(1, 0));
        due.is("no holidays", 1, y.holiday(3));
        due.is("no no-shows", 0, y.person(0, 0));
        due.is("now is 0", 0, y.tick(1));
    }
}
