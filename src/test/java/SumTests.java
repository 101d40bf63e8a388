import java.math.BigInteger;

/** Promises 34 to 41: who played what, sums, shares and the check of all. */
final class SumTests extends Promises {
    SumTests(Check check) {
        super(check);
    }

    @Override
    void run() {
        lastPlayed();
        lastPlayedAtTheEndsOfTheYear();
        lastPlayedRefused();
        howOften();
        howOftenRefused();
        total();
        rehearsed();
        rehearsedRefused();
        checksumAtFirst();
        checksumOfOneService();
        checksumWraps();
        bookedShare();
        meanServices();
        isSound();
    }

    // ---- 34 ----

    private void lastPlayed() {
        says(34, "Returns the latest day of a booked concert in which a work stands.", "Returns the day.");
        halls(1);
        players(10);
        work(10);
        work(10, 1);
        bookedConcert(50, 0, 1);
        bookedConcert(20, 0, 1);
        due("the latest day, not the last one added", () -> book.lastPlayed(0), 50);
        bookedRehearsal(70, 0);
        booked('s', 71, 40, 4, 0, 0);
        concert(80, 0);
        due("no rehearsal, no session and none that is not booked", () -> book.lastPlayed(0), 50);
        book.away(0, 0);
        due("left out of the latest", () -> book.lastPlayed(1), 20);
        due("the other work is not", () -> book.lastPlayed(0), 50);
        book.unbook(0);
        due("not booked any more", () -> book.lastPlayed(0), 20);
        book.book(4);
        due("booked now", () -> book.lastPlayed(0), 80);
    }

    private void lastPlayedAtTheEndsOfTheYear() {
        says(34, "Returns the latest day");
        halls(1);
        work(10);
        bookedConcert(0, 0);
        due("day 0", () -> book.lastPlayed(0), 0);
        bookedConcert(399, 0);
        due("day 399", () -> book.lastPlayed(0), 399);
        bookedConcert(398, 0);
        due("day 399 still", () -> book.lastPlayed(0), 399);
    }

    private void lastPlayedRefused() {
        says(34, "work: the work", "Throws IndexOutOfBoundsException if there is no such work",
                "Throws NoSuchElementException if there is none");
        due("the first of none", () -> book.lastPlayed(0), INDEX);
        two();
        due("in two services that are not booked", () -> book.lastPlayed(0), NO_ELEMENT);
        book.book(1);
        due("in a booked rehearsal", () -> book.lastPlayed(0), NO_ELEMENT);
        book.book(0);
        due("in a booked concert, left out", () -> book.lastPlayed(1), NO_ELEMENT);
        due("in a booked concert", () -> book.lastPlayed(0), 5);
        book.unbook(0);
        due("that is booked no more", () -> book.lastPlayed(0), NO_ELEMENT);
        numbered("work", 2, work -> book.lastPlayed(work));
    }

    // ---- 35 ----

    private void howOften() {
        says(35, "Returns in how many booked concerts a player is cast in a work.", "Returns how many.");
        halls(1);
        book.addPlayer(0, 0, 10);
        book.addPlayer(1, 0, 10);
        work(10, 1);
        work(10, 0, 1);
        due("never", () -> book.howOften(0, 0), 0);
        bookedConcert(10, 0, 1);
        bookedConcert(20, 1, 0);
        bookedConcert(30, 1);
        bookedRehearsal(40, 0);
        booked('s', 50, 40, 4, 0, 0);
        concert(60, 0);
        due("twice, in no rehearsal, session or one that is not booked", () -> book.howOften(0, 0), 2);
        due("three times", () -> book.howOften(1, 1), 3);
        due("never in the other work", () -> book.howOften(0, 1), 0);
        due("nor the other player", () -> book.howOften(1, 0), 0);
        book.away(1, 0);
        due("left out once", () -> book.howOften(0, 0), 1);
        book.unbook(0);
        due("booked no more", () -> book.howOften(0, 0), 0);
        due("the other one twice", () -> book.howOften(1, 1), 2);
    }

    private void howOftenRefused() {
        says(35, "player: the player", "work: the work",
                "Throws IndexOutOfBoundsException if there is no such player or work");
        due("the first of none", () -> book.howOften(0, 0), INDEX);
        players(10);
        due("a player, but no work", () -> book.howOften(0, 0), INDEX);
        book = new Seasonbook();
        work(10);
        due("a work, but no player", () -> book.howOften(0, 0), INDEX);
        book = new Seasonbook();
        two();
        work(10);
        numbered("player", 2, player -> book.howOften(player, 0));
        numbered("work", 3, work -> book.howOften(0, work));
    }

    // ---- 36 ----

    private void total() {
        says(36, "Returns what all booked services cost, with overtime, and all hired scores.", "Returns the sum.");
        due("nothing", () -> book.total(), 0);
        halls(1);
        players(100);
        book.addWork(10, false);
        book.setParts(0, 0, 1);
        book.hire(0, 5, 2, 30);
        due("a score", () -> book.total(), 60);
        concert(10, 0);
        due("a service that is not booked", () -> book.total(), 60);
        book.book(0);
        due("booked, with overtime", () -> book.total(), 60 + 100 + 60);
        booked('r', 15, 40, 4, 0, 0);
        due("two services", () -> book.total(), 60 + 160 + 100);
        book.addWork(10, false);
        book.hire(1, 300, 1, 7);
        due("a score in no service", () -> book.total(), 67 + 160 + 100);
        book.unbook(0);
        due("a service less", () -> book.total(), 67 + 100);
        book.ran(1, 12);
        due("overtime", () -> book.total(), 67 + 100 + 20);
    }

    // ---- 37 ----

    private void rehearsed() {
        says(37, "Returns for how many minutes a work is played in booked rehearsals in which it stands.",
                "Returns the minutes.");
        halls(1);
        players(100);
        work(13, 1);
        work(90);
        due("never", () -> book.rehearsed(0), 0);
        bookedRehearsal(10, 0, 1);
        bookedRehearsal(20, 0);
        bookedConcert(30, 0);
        booked('s', 40, 40, 4, 0, 0);
        service('r', 50, 40, 4, 0, 0);
        due("two rehearsals, no concert or session", () -> book.rehearsed(0), 26);
        due("another work once", () -> book.rehearsed(1), 90);
        book.ran(0, 32);
        due("as long as the work is, however long that ran", () -> book.rehearsed(0), 26);
        book.away(0, 0);
        due("left out of one", () -> book.rehearsed(0), 13);
        book.unbook(1);
        due("of none", () -> book.rehearsed(0), 0);
        due("the other work stands", () -> book.rehearsed(1), 90);
    }

    private void rehearsedRefused() {
        says(37, "work: the work", "Throws IndexOutOfBoundsException if there is no such work");
        due("the first of none", () -> book.rehearsed(0), INDEX);
        two();
        numbered("work", 2, work -> book.rehearsed(work));
    }

    // ---- 38 ----

    private void checksumAtFirst() {
        says(38, "Returns a sum over all.", "Returns 7 at first,");
        due("with a total of 0", () -> book.checksum(), 217L);
        players(100);
        due("a player", () -> book.checksum(), 217L * 31);
        halls(1);
        book.addGuest(5, 1);
        due("halls, works and guests do not count", () -> book.checksum(), 217L * 31);
        book.addWork(10, false);
        book.hire(0, 0, 1, 9);
        due("a total", () -> book.checksum(), 217L * 31 + 9);
    }

    private void checksumOfOneService() {
        says(38, "then for each service 31 times itself plus its cost, then 31 times itself plus the works that stand, as "
                + "bits, then 31 times itself plus its guest, -1 for none; then for each player 31 times itself plus for "
                + "how many services the player is booked; then 31 times itself plus the total.");
        halls(1);
        players(100);
        work(10, 1);
        soloWork(10);
        book.addGuest(50, 2);
        concert(5, 1, 0);
        long notBooked = ((7L * 31 * 31 * 31 - 1) * 31) * 31;
        due("not booked", () -> book.checksum(), notBooked);
        book.engage(0, 0);
        due("a guest", () -> book.checksum(), notBooked + 31 * 31);
        book.book(0);
        long booked = ((((7L * 31 + 150) * 31 + 3) * 31 + 0) * 31 + 1) * 31 + 150 + 60;
        due("booked", () -> book.checksum(), booked);
        book.cancelGuest(0);
        long cancelled = ((((7L * 31 + 100) * 31 + 1) * 31 - 1) * 31 + 1) * 31 + 100 + 60;
        due("without the guest", () -> book.checksum(), cancelled);
    }

    private void checksumWraps() {
        says(38, "then for each service 31 times itself plus its cost,");
        halls(1);
        players(100, 200, 300);
        work(10, 1);
        for (int service = 0; service < 30; service++) {
            bookedConcert(10 * service, 0);
            BigInteger sum = plainChecksum(service + 1);
            due("with " + (service + 1) + " services", () -> book.checksum(), sum.longValue());
        }
        due("the sum itself is far beyond a long", () -> plainChecksum(30).bitLength() > 400, true);
    }

    private BigInteger plainChecksum(int services) {
        BigInteger sum = BigInteger.valueOf(7);
        for (int service = 0; service < services; service++) {
            sum = times31Plus(sum, book.cost(service));
            sum = times31Plus(sum, 1);
            sum = times31Plus(sum, -1);
        }
        for (int player = 0; player < 3; player++) {
            sum = times31Plus(sum, book.services(player));
        }
        return times31Plus(sum, book.total());
    }

    private static BigInteger times31Plus(BigInteger sum, int more) {
        return sum.multiply(BigInteger.valueOf(31)).add(BigInteger.valueOf(more));
    }

    // ---- 39 and 40 ----

    private void bookedShare() {
        says(39, "Returns the share of services that are booked.",
                "Returns their number divided by that of all, both converted to float.",
                "Throws ArithmeticException if there are none");
        due("none", () -> book.bookedShare(), ARITHMETIC);
        halls(1);
        players(10);
        work(10);
        due("still none", () -> book.bookedShare(), ARITHMETIC);
        concert(1, 0);
        due("0 of 1", () -> book.bookedShare(), 0.0f);
        book.book(0);
        due("1 of 1", () -> book.bookedShare(), 1.0f);
        concert(2, 0);
        concert(3, 0);
        due("1 of 3", () -> book.bookedShare(), 1.0f / 3.0f);
        book.book(2);
        due("2 of 3", () -> book.bookedShare(), 2.0f / 3.0f);
        book.book(1);
        due("3 of 3", () -> book.bookedShare(), 1.0f);
        book.unbook(0);
        due("2 of 3 again", () -> book.bookedShare(), 2.0f / 3.0f);
    }

    private void meanServices() {
        says(40, "Returns the mean number of services for which a player is booked.",
                "Returns the sum divided by the number of players, both converted to double.",
                "Throws ArithmeticException if there are none");
        due("none", () -> book.meanServices(), ARITHMETIC);
        halls(1);
        work(10);
        bookedConcert(1, 0);
        due("still none", () -> book.meanServices(), ARITHMETIC);
        for (int player = 0; player < 3; player++) {
            book.addPlayer(player, 0, 10);
        }
        due("0 of 3", () -> book.meanServices(), 0.0);
        work(10, 1, 1);
        work(10, 1);
        bookedConcert(5, 1);
        due("2 of 3", () -> book.meanServices(), 2.0 / 3.0);
        bookedConcert(10, 1, 2);
        due("4 of 3", () -> book.meanServices(), 4.0 / 3.0);
        book.unbook(1);
        due("2 of 3 again", () -> book.meanServices(), 2.0 / 3.0);
    }

    // ---- 41 ----

    private void isSound() {
        says(41, "Checks all.");
        due("at first", () -> book.isSound(), true);
        halls(2);
        for (int player = 0; player < 4; player++) {
            book.addPlayer(player % 2, 3, 10 + player);
        }
        soloWork(10, 2, 1);
        work(10, 1, 2);
        book.addGuest(10, 1);
        book.addGuest(10, 1);
        concert(5, 0, 1);
        service('c', 5, 40, 16, 1, 0, 1);
        book.engage(0, 0);
        book.engage(1, 1);
        book.book(0);
        due("nobody is left for the other", () -> book.book(1), UNSUPPORTED);
        due("booked", () -> book.isSound(), true);
        book.away(0, 2);
        due("with one away", () -> book.isSound(), true);
        book.refuse(0, 1, true);
        due("with a refusal", () -> book.isSound(), true);
        book.elsewhere(0, 5);
        book.cancelGuest(0);
        due("with a guest who cancelled", () -> book.isSound(), true);
        book.unbook(0);
        due("unbooked", () -> book.isSound(), true);
    }
}
