import java.lang.reflect.Field;

/** Promise 41: what no run of calls can bring about is put into the fields here, to see that isSound tells it. */
final class SoundnessTests extends Promises {
    SoundnessTests(Check check) {
        super(check);
    }

    @Override
    void run() {
        begin("41 isSound: what is not sound");
        for (int hall = 0; hall < 2; hall++) {
            book.addHall(0, 96);
        }
        for (int player = 0; player < 3; player++) {
            book.addPlayer(player / 2, 0, 10);
        }
        soloWork(10, 2, 1);
        work(10, 1);
        book.addGuest(10, 1);
        service('c', 5, 20, 10, 0, 0);
        service('c', 20, 20, 10, 0, 0);
        service('c', 40, 60, 10, 1, 1, 0);
        for (int service = 0; service < 3; service++) {
            book.engage(service, 0);
            book.book(service);
        }
        due("as it is", () -> book.isSound(), true);
        brokenServices();
        brokenCasts();
        due("all mended", () -> book.isSound(), true);
    }

    private void brokenServices() {
        broken("two of a guest on a day", 1, "day", 5, "hall", 1, "start", 50, "end", 54, "cast", 0);
        broken("two too near in a hall", 1, "day", 5, "guest", -1, "start", 33, "end", 40, "cast", 0);
        broken("two at once for a player", 2, "day", 5, "guest", -1, "start", 31, "end", 40);
        broken("43 quarters of a night", 2, "day", 4, "start", 60, "end", 73);
        due("two of a guest a day, far enough for players, in two halls", () -> changed(2, "day", 5), false);
        due("44 quarters of a night", () -> changed(2, "day", 4, "start", 60, "end", 72), true);
        due("2 quarters between", () -> changed(2, "day", 5, "guest", -1, "start", 32, "end", 40), true);
        due("4 quarters in a hall", () -> changed(1, "day", 5, "guest", -1, "start", 34, "end", 40), true);
    }

    private void brokenCasts() {
        long cast = longOf(0);
        castBecomes("one player for two parts", 0, cast & ~(15L << 32) | cast >> 4 & 15L << 32);
        castBecomes("another one for two parts", 0, cast & ~(15L << 36) | cast << 4 & 15L << 36);
        castBecomes("who cannot play it", 0, cast & ~(15L << 28));
        castBecomes("none of the players", 0, cast | 15L << 28);
        castBecomes("none of the players, the next number", 0, cast | 3L << 28);
        setLong(0, 0, cast);
    }

    private void castBecomes(String what, int place, long cast) {
        long before = longOf(0);
        setLong(0, place, cast);
        due(what, () -> book.isSound(), false);
        setLong(0, place, before);
    }

    private void broken(String what, int service, Object... fields) {
        due(what, () -> changed(service, fields), false);
    }

    /** Whether it is sound while these fields of a service are set so. */
    private boolean changed(int service, Object... fields) {
        Object row = row(service);
        Object[] before = new Object[fields.length];
        for (int place = 0; place < fields.length; place += 2) {
            before[place] = get(row, (String) fields[place]);
            set(row, (String) fields[place], fields[place + 1]);
        }
        boolean is = book.isSound();
        for (int place = 0; place < fields.length; place += 2) {
            set(row, (String) fields[place], before[place]);
        }
        return is;
    }

    private Object row(int service) {
        return ((Object[]) get(book, "planned"))[service];
    }

    private long longOf(int service) {
        return ((long[]) get(row(service), "casts"))[0];
    }

    private void setLong(int service, int place, long cast) {
        ((long[]) get(row(service), "casts"))[place] = cast;
    }

    private static Object get(Object from, String name) {
        try {
            Field field = from.getClass().getDeclaredField(name);
            field.setAccessible(true);
            return field.get(from);
        } catch (ReflectiveOperationException missing) {
            throw new Error(missing);
        }
    }

    private static void set(Object to, String name, Object value) {
        try {
            Field field = to.getClass().getDeclaredField(name);
            field.setAccessible(true);
            field.set(to, value);
        } catch (ReflectiveOperationException missing) {
            throw new Error(missing);
        }
    }
}
