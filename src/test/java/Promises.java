/** What all the promises' tests share: a new wall for each promise, and short ways to fill it. */
abstract class Promises {
    static final Class<?> INDEX = IndexOutOfBoundsException.class;
    static final Class<?> ARGUMENT = IllegalArgumentException.class;
    static final Class<?> UNSUPPORTED = UnsupportedOperationException.class;
    static final Class<?> STATE = IllegalStateException.class;
    static final Class<?> NO_ELEMENT = java.util.NoSuchElementException.class;
    static final Class<?> ARITHMETIC = ArithmeticException.class;
    static final int LEAST = Integer.MIN_VALUE;
    static final int MOST = Integer.MAX_VALUE;

    private final Check check;
    Seasonbook book;

    Promises(Check check) {
        this.check = check;
    }

    abstract void run();

    void begin(String promise) {
        check.begin(promise);
        book = new Seasonbook();
    }

    void due(String call, Check.Call made, Object due) {
        check.due(call, made, due);
    }

    /** An owned work with so many parts for the instruments 0, 1, .. */
    int work(int minutes, int... parts) {
        int work = book.addWork(minutes, true);
        for (int instrument = 0; instrument < parts.length; instrument++) {
            book.setParts(work, instrument, parts[instrument]);
        }
        return work;
    }

    int soloWork(int minutes, int... parts) {
        int work = work(minutes, parts);
        book.setSolo(work, true);
        return work;
    }

    /** A service with these works, in the order given. */
    int service(char kind, int day, int start, int length, int hall, int... works) {
        int service = book.addService(kind, day, start, length, hall);
        for (int work : works) {
            book.add(service, work);
        }
        return service;
    }

    int booked(char kind, int day, int start, int length, int hall, int... works) {
        int service = service(kind, day, start, length, hall, works);
        book.book(service);
        return service;
    }

    int concert(int day, int... works) {
        return service('c', day, 40, 16, 0, works);
    }

    int bookedConcert(int day, int... works) {
        return booked('c', day, 40, 16, 0, works);
    }

    int bookedRehearsal(int day, int... works) {
        return booked('r', day, 40, 16, 0, works);
    }
}
