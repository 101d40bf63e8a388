import java.lang.reflect.Field;

/** Promise 41: what no run of calls can bring about is put into the fields here, to see that isSound tells it. */
final class SoundnessTests extends Promises {
    private static final int LAST_PART_SHIFT = 28;
    private static final long PLAYER = 15;

    SoundnessTests(Check check) {
        super(check);
    }

    @Override
    void run() {
        casts();
        agreement();
        weeks();
        halls();
        guests();
    }

    /** Three concerts far apart, in two halls, with two players of instrument 0, one of instrument 1, and a guest. */
    private void threeConcerts() {
        halls(2);
        players(10, 10);
        book.addPlayer(1, 0, 10);
        players(999);
        soloWork(10, 2, 1);
        work(10, 1);
        book.addGuest(10, 1);
        service('c', 5, 20, 10, 0, 0);
        service('c', 20, 20, 10, 0, 0);
        service('c', 40, 60, 10, 1, 1, 0);
        for (int service = 0; service < 3; service++) {
            book.engage(service, 0);
            book.book(service);
        }
        due("as it was booked", () -> book.isSound(), true);
    }

    private void withoutGuests() {
        for (int service = 0; service < 3; service++) {
            put(service, "guest", -1);
        }
        due("without guests", () -> book.isSound(), true);
    }

    private void casts() {
        says(41, "Returns whether each work that stands has a player for each part who can play it, none twice;");
        threeConcerts();
        long cast = castOf(0);
        long first = LAST_PART_SHIFT + 8;
        long second = LAST_PART_SHIFT + 4;
        dueOfCast("the first player twice", cast & ~(PLAYER << second), false);
        dueOfCast("the second player twice", cast | 1L << first, false);
        long withoutLast = cast & ~(PLAYER << LAST_PART_SHIFT);
        dueOfCast("who cannot play it and has no other part", withoutLast | 3L << LAST_PART_SHIFT, false);
        dueOfCast("who cannot play it and has another part", withoutLast, false);
        dueOfCast("none of the players", withoutLast | PLAYER << LAST_PART_SHIFT, false);
        dueOfCast("none of the players, the next number", withoutLast | 4L << LAST_PART_SHIFT, false);
        dueOfCast("who can play it and has no other part", cast & ~(PLAYER << second) | 3L << second, true);
        dueOfCast("the two the other way round", cast & ~(PLAYER << second) | 1L << first, true);
        put(0, "standing", 0);
        dueOfCast("what does not stand is not looked at", cast & ~(PLAYER << second), true);
    }

    private void agreement() {
        says(41, "all players keep the agreement;");
        threeConcerts();
        withoutGuests();
        put(2, "day", 5, "start", 32, "end", 40);
        due("2 quarters between", () -> book.isSound(), true);
        put(2, "start", 31);
        due("1 quarter between", () -> book.isSound(), false);
        put(2, "day", 4, "start", 60, "end", 72);
        due("44 quarters of a night", () -> book.isSound(), true);
        put(2, "end", 73);
        due("43 quarters of a night", () -> book.isSound(), false);
        put(2, "day", 5);
        due("two a day", () -> book.isSound(), true);
        put(1, "day", 5, "start", 40, "end", 50);
        due("three a day", () -> book.isSound(), false);
        put(1, "cast", 0);
        due("three a day, but in one nobody is cast", () -> book.isSound(), true);
    }

    private void weeks() {
        says(41, "all players keep the agreement;");
        halls(1);
        players(10);
        work(10, 1);
        for (int service = 0; service < 9; service++) {
            booked('s', service == 8 ? 7 : service / 2, 40 + 20 * (service % 2), 4, 0, 0);
        }
        due("nine on 8 days", () -> book.isSound(), true);
        put(8, "day", 6);
        due("nine on 7 days", () -> book.isSound(), false);
        book.unbook(0);
        due("eight on 7 days", () -> book.isSound(), true);
    }

    private void halls() {
        says(41, "no hall has two services too near;");
        threeConcerts();
        withoutGuests();
        put(1, "day", 5, "start", 34, "end", 40, "cast", 0);
        due("4 quarters between", () -> book.isSound(), true);
        put(1, "start", 33);
        due("3 quarters between", () -> book.isSound(), false);
        put(1, "hall", 1);
        due("in another hall", () -> book.isSound(), true);
        put(1, "hall", 0, "day", 6);
        due("on another day", () -> book.isSound(), true);
        put(1, "day", 5, "start", 10, "end", 17, "isBooked", false, "standing", 0);
        due("3 quarters ahead, not booked", () -> book.isSound(), false);
        put(1, "end", 16);
        due("4 quarters ahead", () -> book.isSound(), true);
    }

    private void guests() {
        says(41, "and guests are engaged once a day.");
        threeConcerts();
        put(2, "day", 5);
        due("one guest twice on a day", () -> book.isSound(), false);
        put(2, "guest", -1);
        due("once", () -> book.isSound(), true);
        put(0, "guest", -1);
        due("not at all", () -> book.isSound(), true);
        put(0, "guest", 0);
        put(2, "day", 6, "guest", 0);
        due("on two days one behind the other", () -> book.isSound(), true);
    }

    // ---- fields ----

    private void dueOfCast(String what, long cast, boolean due) {
        long before = castOf(0);
        ((long[]) get(row(0), "casts"))[0] = cast;
        due(what, () -> book.isSound(), due);
        ((long[]) get(row(0), "casts"))[0] = before;
    }

    private long castOf(int service) {
        return ((long[]) get(row(service), "casts"))[0];
    }

    private Object row(int service) {
        return ((Object[]) get(book, "planned"))[service];
    }

    /** Sets fields of a service, told as names and values in turn. */
    private void put(int service, Object... fields) {
        for (int place = 0; place < fields.length; place += 2) {
            set(row(service), (String) fields[place], fields[place + 1]);
        }
    }

    private static Object get(Object from, String name) {
        try {
            return field(from, name).get(from);
        } catch (ReflectiveOperationException missing) {
            throw new Error(missing);
        }
    }

    private static void set(Object to, String name, Object value) {
        try {
            field(to, name).set(to, value);
        } catch (ReflectiveOperationException missing) {
            throw new Error(missing);
        }
    }

    private static Field field(Object of, String name) throws ReflectiveOperationException {
        Field field = of.getClass().getDeclaredField(name);
        field.setAccessible(true);
        return field;
    }
}
