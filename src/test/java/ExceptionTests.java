/** What the terms say of exceptions, for all promises: which one is thrown if several apply, and that nothing changes. */
final class ExceptionTests extends Promises {
    private static final String FIRST = "If several exceptions apply, the one that is documented first is thrown.";
    private static final String NOTHING = "Exceptions. A method that throws an exception changes nothing.";

    ExceptionTests(Check check) {
        super(check);
    }

    @Override
    void run() {
        noSuchRowAndOutOfRange();
        noSuchRowAndNotSupported();
        noSuchRowAndNoElement();
        outOfRangeAndNotSupported();
        outOfRangeAndFull();
        notSupportedAndFull();
        notSupportedAndNoElement();
        bookedCallsChangeNothing();
        answersStayTheSame();
        asManyCallsAsPromised();
    }

    private void noSuchRowAndOutOfRange() {
        terms(FIRST);
        two();
        due("setParts", () -> book.setParts(2, 6, 5), INDEX);
        due("hire", () -> book.hire(-1, 400, 0, 0), INDEX);
        due("isScoreThere", () -> book.isScoreThere(2, 400), INDEX);
        due("leave", () -> book.leave(2, 5, 4), INDEX);
        due("give", () -> book.give(2, 400, true), INDEX);
        due("addService", () -> book.addService('x', 400, 96, 17, 2), INDEX);
        due("setSeries", () -> book.setSeries(2, 4), INDEX);
        due("elsewhere", () -> book.elsewhere(2, 400), INDEX);
        due("ran", () -> book.ran(2, 33), INDEX);
    }

    private void noSuchRowAndNotSupported() {
        terms(FIRST);
        two();
        due("away from one that is not booked", () -> book.away(0, 2), INDEX);
        book.book(0);
        due("add to a booked one", () -> book.add(0, 2), INDEX);
        due("remove from a booked one", () -> book.remove(0, 2), INDEX);
        due("engage for a booked one", () -> book.engage(0, 2), INDEX);
        for (int number = 2; number < 8; number++) {
            work(10);
        }
        concert(30, 2, 3, 4, 5, 6, 7);
        due("add to one with six works", () -> book.add(2, 8), INDEX);
        due("remove what is in none", () -> book.remove(2, -1), INDEX);
    }

    private void noSuchRowAndNoElement() {
        terms(FIRST);
        two();
        due("castAt, a part of no work", () -> book.castAt(0, 2, -1), INDEX);
        due("castAt, a part of no service", () -> book.castAt(2, 0, -1), INDEX);
        due("callAt, of no service", () -> book.callAt(2, -1), INDEX);
        due("cancelGuest, of no service", () -> book.cancelGuest(2), INDEX);
    }

    private void outOfRangeAndNotSupported() {
        terms(FIRST);
        two();
        due("setParts in a service", () -> book.setParts(0, 0, 5), ARGUMENT);
        due("setParts in a service, no instrument", () -> book.setParts(0, 6, 0), ARGUMENT);
        due("hire an owned one on day 400", () -> book.hire(0, 400, 1, 1), ARGUMENT);
        due("hire an owned one for 21 weeks", () -> book.hire(0, 0, 21, 1), ARGUMENT);
        due("hire an owned one for nothing", () -> book.hire(0, 0, 1, 0), ARGUMENT);
        due("no kind, not open", () -> book.addService('x', 5, 95, 4, 0), ARGUMENT);
        due("too short, too near", () -> book.addService('r', 5, 40, 3, 0), ARGUMENT);
        due("too long, too near", () -> book.addService('r', 5, 40, 17, 0), ARGUMENT);
        book.give(0, 9, true);
        due("too short, others have it", () -> book.addService('r', 9, 40, 3, 0), ARGUMENT);
        due("series 4 of a rehearsal", () -> book.setSeries(1, 4), ARGUMENT);
        due("ran 33 quarters, not booked", () -> book.ran(0, 33), ARGUMENT);
        book.book(0);
        due("leave from a booked day back", () -> book.leave(0, 5, 4), ARGUMENT);
        due("leave beyond a booked day", () -> book.leave(0, 5, 400), ARGUMENT);
        work(10, 4, 4, 2);
        due("an eleventh part for no instrument", () -> book.setParts(2, 6, 1), ARGUMENT);
    }

    private void outOfRangeAndFull() {
        terms(FIRST);
        for (int number = 0; number < 14; number++) {
            players(10);
        }
        for (int number = 0; number < 12; number++) {
            book.addWork(10, false);
        }
        halls(4);
        for (int number = 0; number < 5; number++) {
            book.addGuest(1, 1);
        }
        for (int number = 0; number < 30; number++) {
            concert(10 * number);
        }
        for (int time = 0; time < 20; time++) {
            book.elsewhere(0, time);
        }
        for (int time = 0; time < 5; time++) {
            book.leave(0, time, time);
        }
        for (int time = 0; time < 6; time++) {
            book.hire(0, time, 1, 1);
        }
        due("addWork", () -> book.addWork(0, true), ARGUMENT);
        due("addPlayer, instrument", () -> book.addPlayer(6, 0, 1), ARGUMENT);
        due("addPlayer, doubles", () -> book.addPlayer(0, 64, 1), ARGUMENT);
        due("addPlayer, wage", () -> book.addPlayer(0, 0, 0), ARGUMENT);
        due("addHall", () -> book.addHall(0, 3), ARGUMENT);
        due("addGuest, fee", () -> book.addGuest(10000, 0), ARGUMENT);
        due("addGuest, knows", () -> book.addGuest(0, 4096), ARGUMENT);
        due("addService", () -> book.addService('r', 399, 40, 3, 0), ARGUMENT);
        due("elsewhere", () -> book.elsewhere(0, 400), ARGUMENT);
        due("leave", () -> book.leave(0, 10, 9), ARGUMENT);
        due("hire", () -> book.hire(0, 10, 1, 1000), ARGUMENT);
        due("all of these are full", () -> book.leave(0, 10, 10), STATE);
        due("the score was hired 6 times", () -> book.hire(0, 10, 1, 1), STATE);
    }

    private void notSupportedAndFull() {
        terms(FIRST);
        halls(2);
        players(10);
        work(10, 1);
        bookedConcert(50, 0);
        for (int number = 1; number < 30; number++) {
            concert(50 + 7 * number);
        }
        due("addService too near", () -> book.addService('r', 50, 40, 4, 0), UNSUPPORTED);
        due("addService beyond the day", () -> book.addService('r', 49, 95, 4, 0), UNSUPPORTED);
        book.give(1, 9, true);
        due("addService where others are", () -> book.addService('r', 9, 40, 4, 1), UNSUPPORTED);
        due("addService in no hall", () -> book.addService('r', 9, 40, 4, 2), INDEX);
        due("addService", () -> book.addService('r', 10, 40, 4, 1), STATE);
        for (int time = 0; time < 5; time++) {
            book.leave(0, time, time);
        }
        due("leave when booked", () -> book.leave(0, 50, 50), UNSUPPORTED);
        due("leave", () -> book.leave(0, 51, 51), STATE);
    }

    private void notSupportedAndNoElement() {
        terms(FIRST);
        two();
        due("callAt of a concert, no index", () -> book.callAt(0, -1), UNSUPPORTED);
        due("callAt of one that is not booked, no index", () -> book.callAt(1, 6), UNSUPPORTED);
        due("setSeries of a rehearsal that the series would forbid", () -> book.setSeries(1, 0), UNSUPPORTED);
    }

    /** A wall on which much is told, so that a change would be seen. */
    private void busy() {
        two();
        book.addPlayer(1, 63, 30);
        book.addWork(20, false);
        book.hire(2, 5, 2, 9);
        book.setSeries(0, 2);
        book.leave(2, 100, 110);
        book.elsewhere(1, 300);
        book.give(1, 200, true);
        book.refuse(2, 1, true);
        book.engage(0, 0);
        book.engage(1, 1);
        book.book(0);
        book.book(1);
        book.away(0, 1);
        book.ran(0, 20);
        concert(45, 1, 2);
        booked('s', 60, 40, 8, 1, 0);
    }

    private void bookedCallsChangeNothing() {
        terms(NOTHING);
        busy();
        due("book, booked", () -> book.book(0), UNSUPPORTED);
        due("book, no work left", () -> book.book(2), UNSUPPORTED);
        due("unbook", () -> book.unbook(2), UNSUPPORTED);
        due("away, told", () -> book.away(0, 1), UNSUPPORTED);
        due("away, not booked", () -> book.away(2, 1), UNSUPPORTED);
        due("add", () -> book.add(0, 2), UNSUPPORTED);
        due("remove", () -> book.remove(0, 0), UNSUPPORTED);
        due("engage", () -> book.engage(0, 1), UNSUPPORTED);
        due("cancelGuest", () -> book.cancelGuest(2), NO_ELEMENT);
        due("setParts", () -> book.setParts(0, 0, 2), UNSUPPORTED);
        due("setSolo", () -> book.setSolo(0, true), UNSUPPORTED);
        due("setSeries", () -> book.setSeries(2, 2), UNSUPPORTED);
        due("setSeries of a session", () -> book.setSeries(3, -1), UNSUPPORTED);
        due("leave", () -> book.leave(0, 5, 5), UNSUPPORTED);
        due("give", () -> book.give(0, 5, true), UNSUPPORTED);
        due("addService", () -> book.addService('r', 5, 50, 4, 0), UNSUPPORTED);
        due("ran", () -> book.ran(2, 20), UNSUPPORTED);
        due("callAt", () -> book.callAt(1, 2), NO_ELEMENT);
        due("castAt", () -> book.castAt(0, 0, 1), NO_ELEMENT);
        due("waiting", () -> book.waiting(0), UNSUPPORTED);
        due("guestOf", () -> book.guestOf(2), NO_ELEMENT);
        due("lastPlayed", () -> book.lastPlayed(2), NO_ELEMENT);
    }

    /** The same wall twice, one with refused calls between: seen from outside they stay alike. */
    private void answersStayTheSame() {
        terms(NOTHING);
        busy();
        Seasonbook alike = book;
        busyAnew();
        for (int number = 0; number < 4; number++) {
            int service = number;
            Check.answerOf(() -> book.book(service));
            Check.answerOf(() -> book.away(service, 7));
            Check.answerOf(() -> book.engage(service, 2));
            Check.answerOf(() -> book.ran(service, 3));
            Check.answerOf(() -> book.add(service, 12));
            Check.answerOf(() -> book.setSeries(service, 9));
        }
        due("what was told is told alike", () -> State.of(book).equals(State.of(alike)), true);
        due("checksum", () -> book.checksum(), alike.checksum());
        due("total", () -> book.total(), alike.total());
        due("cost", () -> book.cost(0), alike.cost(0));
        due("overtime", () -> book.overtime(0), alike.overtime(0));
        due("castAt", () -> book.castAt(3, 0, 0), alike.castAt(3, 0, 0));
        due("leave", () -> book.leave(2, 111, 111), alike.leave(2, 111, 111));
        due("elsewhere", () -> book.elsewhere(1, 301), alike.elsewhere(1, 301));
        due("setSeries", () -> book.setSeries(0, -1), alike.setSeries(0, -1));
        due("unbook", () -> book.unbook(0), alike.unbook(0));
    }

    private void busyAnew() {
        book = new Seasonbook();
        busy();
    }

    private void asManyCallsAsPromised() {
        terms("An object is used for at most 512 calls after it has been made;");
        halls(1);
        players(10);
        work(10, 1);
        concert(5, 0);
        for (int call = 7; call < 511; call += 2) {
            due("call " + call, () -> book.book(0), 10);
            due("call " + (call + 1), () -> book.unbook(0), 10);
        }
        due("call 511", () -> book.book(0), 10);
        due("call 512", () -> book.isSound(), true);
    }
}
