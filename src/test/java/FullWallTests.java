import java.lang.management.ManagementFactory;

/** A wall with all that it can hold, on which each call is made: no row is looked for behind the last one. */
final class FullWallTests extends Promises {
    private static final int MOST_BYTES_OF_A_CALL = 64;

    FullWallTests(Check check) {
        super(check);
    }

    @Override
    void run() {
        fill();
        askWorks();
        askServices();
        askSums();
        manyBookings();
        makesNoObjects();
    }

    /** Services 7 days apart, all of them with works 0 to 5. */
    private void fill() {
        begin("a full wall");
        int[][] parts = {{2, 2, 2, 2, 1, 1}, {4, 4, 2}, {1, 1, 1, 1, 1, 4}, {0, 0, 0, 0, 0, 1}, {2, 2, 2, 2, 2}, {}};
        for (int number = 0; number < 12; number++) {
            int work = book.addWork(10, number < 6);
            for (int instrument = 0; number < 6 && instrument < parts[number].length; instrument++) {
                book.setParts(work, instrument, parts[number][instrument]);
            }
            for (int time = 0; number >= 6 && time < 6; time++) {
                book.hire(work, 60 * time, 20, 999);
            }
        }
        book.setSolo(5, true);
        for (int player = 0; player < 14; player++) {
            book.addPlayer(player % 6, 63, 999 - player);
        }
        for (int hall = 0; hall < 4; hall++) {
            book.addHall(0, 96);
        }
        for (int guest = 0; guest < 5; guest++) {
            book.addGuest(9999 - guest, 32);
            for (int day = 0; day < 20; day++) {
                book.elsewhere(guest, 380 + day);
            }
        }
        for (int number = 0; number < 30; number++) {
            int service = service("rcs".charAt(number % 3), 7 * number, 40, 16, number % 4, 0, 1, 2, 3, 4, 5);
            book.engage(service, number % 5);
        }
        for (int player = 0; player < 14; player++) {
            for (int time = 0; time < 5; time++) {
                book.leave(player, 300 + time, 399);
            }
        }
    }

    private void askWorks() {
        due("a thirteenth work", () -> book.addWork(1, true), STATE);
        due("a fifteenth player", () -> book.addPlayer(0, 0, 1), STATE);
        due("a fifth hall", () -> book.addHall(0, 96), STATE);
        due("a sixth guest", () -> book.addGuest(0, 0), STATE);
        due("a thirty-first service", () -> book.addService('r', 399, 40, 16, 0), STATE);
        due("a seventh hire", () -> book.hire(11, 0, 1, 1), STATE);
        due("a sixth leave", () -> book.leave(13, 0, 1), STATE);
        due("a twenty-first day elsewhere", () -> book.elsewhere(4, 379), STATE);
        due("a seventh work", () -> book.add(29, 11), UNSUPPORTED);
        due("no score there", () -> book.isScoreThere(11, 399), true);
        due("a work in no service", () -> book.setParts(11, 5, 4), 4);
        due("a hall with a service", () -> book.give(1, 203, true), UNSUPPORTED);
        due("a hall without", () -> book.give(3, 399, true), false);
    }

    private void askServices() {
        for (int service = 0; service < 30; service++) {
            int asked = service;
            due("book " + service, () -> book.book(asked) > 9999, true);
        }
        due("all stand", () -> book.away(29, 0), 63);
        due("told", () -> book.away(29, 0), UNSUPPORTED);
        due("another guest instead", () -> book.cancelGuest(29), 3);
        due("the last work stands with it", () -> book.stands(29, 5), true);
        due("a part", () -> book.castAt(29, 0, 9) > 0, true);
        due("no such part", () -> book.castAt(29, 0, 10), NO_ELEMENT);
        due("a call", () -> book.callAt(27, 5) >= 0, true);
        due("no such call", () -> book.callAt(27, 6), NO_ELEMENT);
        due("nobody waits, as all play on", () -> book.waiting(27), 0);
        due("free", () -> book.isFree(13, 29), true);
        due("it can be in a series no more than once", () -> book.setSeries(28, 3), -1);
        due("the other one", () -> book.setSeries(25, 3), UNSUPPORTED);
    }

    private void askSums() {
        due("all are booked", () -> book.bookedShare(), 1.0f);
        due("the mean", () -> book.meanServices() > 20, true);
        due("the last concert", () -> book.lastPlayed(0), 7 * 28);
        due("how often", () -> book.howOften(13, 0) + book.howOften(0, 0) > 0, true);
        due("rehearsed", () -> book.rehearsed(0), 100);
        due("total", () -> book.total() > 6 * 6 * 20 * 999 + 30 * 9995, true);
        due("the last player's services", () -> book.services(13) > 0, true);
        due("sound", () -> book.isSound(), true);
        due("unbook", () -> book.unbook(0) > 9999, true);
        due("and book", () -> book.book(0) > 9999, true);
    }

    private void manyBookings() {
        begin("a full wall, all booked in turn");
        book.addHall(0, 96);
        for (int player = 0; player < 14; player++) {
            book.addPlayer(0, 0, 999);
        }
        work(10, 4);
        for (int service = 0; service < 30; service++) {
            bookedConcert(7 * service, 0);
        }
        due("30 times 4 parts of 14 players, the first", () -> book.services(0), 9);
        due("and the last", () -> book.services(13), 8);
        due("the mean", () -> book.meanServices(), 120.0 / 14.0);
    }

    /** All calls of a run live in one room, so that a call makes no object but the exception that it throws. */
    private void makesNoObjects() {
        fill();
        long[] spent = new long[2];
        for (int time = 0; time < 2; time++) {
            long before = bytesSoFar();
            for (int service = 0; service < 30; service++) {
                book.book(service);
                book.away(service, 3);
                book.cancelGuest(service);
                book.isSound();
                book.checksum();
                book.unbook(service);
            }
            spent[time] = bytesSoFar() - before;
        }
        due("bytes of 180 calls are few", () -> spent[1] < 180 * MOST_BYTES_OF_A_CALL, true);
    }

    private static long bytesSoFar() {
        return ((com.sun.management.ThreadMXBean) ManagementFactory.getThreadMXBean()).getCurrentThreadAllocatedBytes();
    }
}
