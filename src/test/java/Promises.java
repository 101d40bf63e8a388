import java.util.function.IntFunction;

/**
 * What all the promises' tests share: each test quotes the sentences of the document that it tries, and begins with
 * a new wall; a call that is refused is always looked at twice, for its exception and for the state behind it.
 */
abstract class Promises {
    static final Class<?> INDEX = IndexOutOfBoundsException.class;
    static final Class<?> ARGUMENT = IllegalArgumentException.class;
    static final Class<?> UNSUPPORTED = UnsupportedOperationException.class;
    static final Class<?> STATE = IllegalStateException.class;
    static final Class<?> NO_ELEMENT = java.util.NoSuchElementException.class;
    static final Class<?> ARITHMETIC = ArithmeticException.class;
    static final int LEAST = Integer.MIN_VALUE;
    static final int MOST = Integer.MAX_VALUE;

    private final Check check;
    Seasonbook book;

    Promises(Check check) {
        this.check = check;
    }

    abstract void run();

    // ---- which sentence is tried ----

    void says(int promise, String... sentences) {
        check.begin(promise, sentences);
        book = new Seasonbook();
    }

    void terms(String... sentences) {
        says(0, sentences);
    }

    /** The test that has begun is one of these sentences of the terms too. */
    void alsoTerms(String... sentences) {
        check.quote(0, sentences);
    }

    void begin(String test) {
        check.begin(test);
        book = new Seasonbook();
    }

    // ---- what is due ----

    /** Due is an answer, or the class of an exception: then nothing may have changed behind it. */
    void due(String call, Check.Call made, Object due) {
        String before = due instanceof Class ? State.of(book) : "";
        check.due(call, made, due);
        if (due instanceof Class) {
            check.due(call + " is refused and changes nothing", () -> State.of(book).equals(before), true);
        }
    }

    /** The least and the greatest number are taken, the first ones beyond and far ones are out of range. */
    void range(String what, int least, int most, IntFunction<Object> call) {
        for (int number : new int[] {least - 1, most + 1, LEAST, MOST}) {
            due(what + " " + number, () -> call.apply(number), ARGUMENT);
        }
        taken(what, least, call);
        taken(what, most, call);
    }

    void taken(String what, int number, IntFunction<Object> call) {
        due(what + " " + number + " is taken", () -> call.apply(number) != null, true);
    }

    /** The numbers from 0 up to the last one are there, none ahead of these or behind. */
    void numbered(String what, int count, IntFunction<Object> call) {
        for (int number : new int[] {-1, count, LEAST, MOST}) {
            due(what + " " + number, () -> call.apply(number), INDEX);
        }
        due(what + " " + (count - 1) + " is there", () -> INDEX.equals(Check.answerOf(() -> call.apply(count - 1))),
                false);
    }

    // ---- short ways to fill the wall ----

    /** An owned work with so many parts for the instruments 0, 1, .. */
    int work(int minutes, int... parts) {
        int work = book.addWork(minutes, true);
        for (int instrument = 0; instrument < parts.length; instrument++) {
            book.setParts(work, instrument, parts[instrument]);
        }
        return work;
    }

    int soloWork(int minutes, int... parts) {
        int work = work(minutes, parts);
        book.setSolo(work, true);
        return work;
    }

    void halls(int many) {
        for (int hall = 0; hall < many; hall++) {
            book.addHall(0, 96);
        }
    }

    /** Players with these wages, all of instrument 0. */
    void players(int... wages) {
        for (int wage : wages) {
            book.addPlayer(0, 0, wage);
        }
    }

    /** A service with these works, in the order given. */
    int service(char kind, int day, int start, int length, int hall, int... works) {
        int service = book.addService(kind, day, start, length, hall);
        for (int work : works) {
            book.add(service, work);
        }
        return service;
    }

    int booked(char kind, int day, int start, int length, int hall, int... works) {
        int service = service(kind, day, start, length, hall, works);
        book.book(service);
        return service;
    }

    int concert(int day, int... works) {
        return service('c', day, 40, 16, 0, works);
    }

    int bookedConcert(int day, int... works) {
        return booked('c', day, 40, 16, 0, works);
    }

    int bookedRehearsal(int day, int... works) {
        return booked('r', day, 40, 16, 0, works);
    }

    /** Two of each: works with a part for instrument 0, the second with a soloist, in a concert and in a rehearsal. */
    void two() {
        halls(2);
        players(10, 20);
        work(10, 1);
        soloWork(10, 1);
        book.addGuest(100, 2);
        book.addGuest(200, 2);
        concert(5, 0, 1);
        service('r', 15, 40, 16, 1, 0, 1);
    }
}
