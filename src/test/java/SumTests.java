/** Promises 34 to 41: who played what, sums, shares and the check of all. */
final class SumTests extends Promises {
    SumTests(Check check) {
        super(check);
    }

    @Override
    void run() {
        lastPlayed();
        howOften();
        total();
        rehearsed();
        checksum();
        bookedShare();
        meanServices();
        isSound();
    }

    private void lastPlayed() {
        begin("34 lastPlayed");
        due("no such work", () -> book.lastPlayed(0), INDEX);
        book.addHall(0, 96);
        book.addPlayer(0, 0, 10);
        work(10);
        work(10, 1);
        due("work -1", () -> book.lastPlayed(-1), INDEX);
        due("never", () -> book.lastPlayed(0), NO_ELEMENT);
        bookedConcert(50, 0, 1);
        bookedConcert(20, 0);
        due("the latest day, not the last added", () -> book.lastPlayed(0), 50);
        bookedRehearsal(70, 0);
        booked('s', 71, 40, 4, 0, 0);
        concert(80, 0);
        due("no rehearsal, session or unbooked one", () -> book.lastPlayed(0), 50);
        book.away(0, 0);
        due("left out", () -> book.lastPlayed(1), NO_ELEMENT);
        book.unbook(0);
        due("unbooked", () -> book.lastPlayed(0), 20);
        bookedConcert(0, 1);
        due("day 0", () -> book.lastPlayed(1), 0);
    }

    private void howOften() {
        begin("35 howOften");
        due("no such player", () -> book.howOften(0, 0), INDEX);
        book.addPlayer(0, 0, 10);
        due("no such work", () -> book.howOften(0, 0), INDEX);
        book.addPlayer(1, 0, 10);
        book.addHall(0, 96);
        work(10, 1);
        work(10, 0, 1);
        due("player 2", () -> book.howOften(2, 0), INDEX);
        due("work -1", () -> book.howOften(0, -1), INDEX);
        due("never", () -> book.howOften(0, 0), 0);
        bookedConcert(10, 0, 1);
        bookedConcert(20, 1, 0);
        bookedConcert(30, 1);
        bookedRehearsal(40, 0);
        booked('s', 50, 40, 4, 0, 0);
        concert(60, 0);
        due("twice", () -> book.howOften(0, 0), 2);
        due("three times", () -> book.howOften(1, 1), 3);
        due("not cast in it", () -> book.howOften(0, 1), 0);
        book.away(1, 0);
        due("left out once", () -> book.howOften(0, 0), 1);
    }

    private void total() {
        begin("36 total");
        due("nothing", () -> book.total(), 0);
        book.addHall(0, 96);
        book.addPlayer(0, 0, 100);
        book.addWork(10, false);
        book.setParts(0, 0, 1);
        book.hire(0, 5, 2, 30);
        due("a score", () -> book.total(), 60);
        bookedConcert(10, 0);
        due("with overtime", () -> book.total(), 60 + 100 + 60);
        booked('r', 15, 40, 4, 0, 0);
        due("two services", () -> book.total(), 60 + 160 + 100);
        book.hire(0, 300, 1, 7);
        book.unbook(0);
        due("a service less, a hire more", () -> book.total(), 60 + 100 + 7);
    }

    private void rehearsed() {
        begin("37 rehearsed");
        due("no such work", () -> book.rehearsed(0), INDEX);
        book.addHall(0, 96);
        book.addPlayer(0, 0, 100);
        work(13, 1);
        due("work -1", () -> book.rehearsed(-1), INDEX);
        due("never", () -> book.rehearsed(0), 0);
        bookedRehearsal(10, 0);
        bookedRehearsal(20, 0);
        bookedConcert(30, 0);
        booked('s', 40, 40, 4, 0, 0);
        service('r', 50, 40, 4, 0, 0);
        due("two rehearsals", () -> book.rehearsed(0), 26);
        book.away(0, 0);
        due("left out of one", () -> book.rehearsed(0), 13);
        book.unbook(1);
        due("of none", () -> book.rehearsed(0), 0);
    }

    private void checksum() {
        begin("38 checksum");
        due("at first", () -> book.checksum(), 217L);
        book.addPlayer(0, 0, 100);
        due("a player", () -> book.checksum(), 217L * 31);
        book.addHall(0, 96);
        work(10, 1);
        soloWork(10);
        book.addGuest(50, 2);
        concert(5, 1, 0);
        long unbooked = ((((7L * 31) * 31) * 31 - 1) * 31) * 31;
        due("a service that is not booked", () -> book.checksum(), unbooked);
        book.engage(0, 0);
        due("a guest", () -> book.checksum(), unbooked + 31 * 31);
        book.book(0);
        long booked = ((((7L * 31 + 150) * 31 + 3) * 31 + 0) * 31 + 1) * 31 + 150 + 60;
        due("a booked one", () -> book.checksum(), booked);
        book.cancelGuest(0);
        long cancelled = ((((7L * 31 + 100) * 31 + 1) * 31 - 1) * 31 + 1) * 31 + 100 + 60;
        due("without the guest", () -> book.checksum(), cancelled);
    }

    private void bookedShare() {
        begin("39 bookedShare");
        due("none", () -> book.bookedShare(), ARITHMETIC);
        book.addHall(0, 96);
        work(10);
        concert(1, 0);
        due("0 of 1", () -> book.bookedShare(), 0.0f);
        book.book(0);
        due("1 of 1", () -> book.bookedShare(), 1.0f);
        concert(2, 0);
        concert(3, 0);
        due("1 of 3", () -> book.bookedShare(), 1.0f / 3.0f);
        book.book(2);
        due("2 of 3", () -> book.bookedShare(), 2.0f / 3.0f);
    }

    private void meanServices() {
        begin("40 meanServices");
        due("none", () -> book.meanServices(), ARITHMETIC);
        for (int player = 0; player < 3; player++) {
            book.addPlayer(player, 0, 10);
        }
        due("0 of 3", () -> book.meanServices(), 0.0);
        book.addHall(0, 96);
        work(10, 1, 1);
        bookedConcert(5, 0);
        due("2 of 3", () -> book.meanServices(), 2.0 / 3.0);
        bookedConcert(10, 0);
        due("4 of 3", () -> book.meanServices(), 4.0 / 3.0);
    }

    private void isSound() {
        begin("41 isSound");
        due("at first", () -> book.isSound(), true);
        book.addHall(0, 96);
        book.addHall(0, 96);
        for (int player = 0; player < 4; player++) {
            book.addPlayer(player % 2, 3, 10 + player);
        }
        soloWork(10, 2, 1);
        work(10, 1, 2);
        book.addGuest(10, 1);
        book.addGuest(10, 1);
        concert(5, 0, 1);
        service('c', 5, 40, 16, 1, 0, 1);
        book.engage(0, 0);
        book.engage(1, 1);
        book.book(0);
        due("nobody is left for the other", () -> book.book(1), UNSUPPORTED);
        due("booked", () -> book.isSound(), true);
        book.away(0, 2);
        book.refuse(0, 1, true);
        book.cancelGuest(0);
        due("changed", () -> book.isSound(), true);
    }
}
