/** Promises 21 to 27, and what the terms say of casts: bookings, who is away, and costs. */
final class BookingTests extends Promises {
    private static final String LEFT_OUT = "A work that has no cast, has no score on that day, or needs a soloist whom the "
            + "service has not, is left out;";
    private static final String COST = "The cost of a booked service are the wages of all who are cast in a work that "
            + "stands, each once, 10 for each part of these that is doubled, and the fee of its guest, whatever stands.";
    private static final String AWAY = "When a player is told to be away from a booked service, it is cast anew, as if it "
            + "were booked now, without those who are away, also if that player was not cast;";

    BookingTests(Check check) {
        super(check);
    }

    @Override
    void run() {
        book();
        bookRefused();
        leftOut();
        leftOutPlayersAreNotPaid();
        unbook();
        unbookForgets();
        unbookRefused();
        isBooked();
        away();
        awayRefused();
        awayAsIfBookedNow();
        awayLooksAtEverything();
        stands();
        standsOfNone();
        castAt();
        castAtRefused();
        castAtOfTenParts();
        cost();
        costRefused();
    }

    // ---- 21 ----

    private void book() {
        says(21, "Books a service.", "Returns what it costs.");
        two();
        due("one work of two", () -> book.book(0), 10);
        due("it is booked", () -> book.isBooked(0), true);
        due("it costs that", () -> book.cost(0), 10);
        book.engage(1, 0);
        due("two works, one player, a guest", () -> book.book(1), 10 + 100);
        work(10);
        concert(30, 2);
        due("a work without parts", () -> book.book(2), 0);
        due("stands", () -> book.stands(2, 2), true);
    }

    private void bookRefused() {
        says(21, "service: the service", "Throws IndexOutOfBoundsException if there is no such service",
                "Throws UnsupportedOperationException if it is booked, or no work is left");
        alsoTerms("a service without any work left cannot be booked.");
        due("the first of none", () -> book.book(0), INDEX);
        two();
        concert(25);
        due("no work is in it", () -> book.book(2), UNSUPPORTED);
        book.add(2, 1);
        due("the only work has no soloist", () -> book.book(2), UNSUPPORTED);
        due("not booked", () -> book.isBooked(2), false);
        book.refuse(0, 0, true);
        book.refuse(1, 0, true);
        due("the one has no cast, the other one no soloist", () -> book.book(0), UNSUPPORTED);
        book.refuse(1, 0, false);
        due("one work is left", () -> book.book(0), 20);
        due("booked", () -> book.book(0), UNSUPPORTED);
        book.away(0, 1);
        due("booked without any work", () -> book.book(0), UNSUPPORTED);
        numbered("service", 3, service -> book.book(service));
    }

    private void leftOut() {
        terms(LEFT_OUT);
        halls(1);
        players(40);
        book.addGuest(100, 2 | 4);
        book.addWork(10, false);
        soloWork(10);
        work(10);
        soloWork(10, 1);
        work(10, 0, 1);
        book.hire(0, 20, 1, 1);
        concert(19, 0, 2);
        concert(20, 0, 1, 2, 3, 4);
        book.book(0);
        due("no score the day ahead", () -> book.stands(0, 0), false);
        book.book(1);
        due("a score", () -> book.stands(1, 0), true);
        due("no soloist", () -> book.stands(1, 1), false);
        due("needs no soloist", () -> book.stands(1, 2), true);
        due("no cast", () -> book.stands(1, 4), false);
        book.unbook(1);
        book.engage(1, 0);
        due("with a guest", () -> book.book(1), 100);
        due("a soloist", () -> book.stands(1, 1), true);
        due("not for this one", () -> book.stands(1, 3), false);
        service('r', 20, 70, 4, 0, 1);
        due("a rehearsal needs the soloist too", () -> book.book(2), UNSUPPORTED);
        service('s', 28, 70, 4, 0, 0);
        due("a session needs the score too", () -> book.book(3), UNSUPPORTED);
    }

    private void leftOutPlayersAreNotPaid() {
        terms("is left out;");
        halls(1);
        players(40, 30);
        book.addPlayer(1, 0, 20);
        soloWork(10, 2, 1);
        work(10, 0, 1);
        work(10, 3);
        work(10, 1);
        concert(5, 0, 1, 2, 3);
        due("only who is cast in what stands", () -> book.book(0), 20 + 30);
        due("the first of two for what is left out", () -> book.services(0), 0);
        due("not cast already by what is left out", () -> book.castAt(0, 3, 0), 1);
    }

    // ---- 22 ----

    private void unbook() {
        says(22, "Books a service no more;", "Returns what it cost.");
        two();
        book.engage(0, 0);
        book.book(0);
        due("what it cost", () -> book.unbook(0), 110);
        due("not booked", () -> book.isBooked(0), false);
        due("costs nothing", () -> book.cost(0), 0);
        due("nobody is booked", () -> book.services(0), 0);
        due("nothing stands", () -> book.stands(0, 0), false);
        due("nor is cast", () -> book.castAt(0, 0, 0), NO_ELEMENT);
        due("its guest stays", () -> book.guestOf(0), 0);
        due("so do its works", () -> book.remove(0, 1), 1);
        due("it can be booked again", () -> book.book(0), 110);
    }

    private void unbookForgets() {
        says(22, "who was away, and how long it ran, is as if it was never told.");
        halls(1);
        players(40, 60);
        work(10, 1);
        concert(5, 0);
        book.book(0);
        book.away(0, 0);
        book.ran(0, 32);
        due("what it cost, overtime aside", () -> book.unbook(0), 60);
        due("no overtime", () -> book.overtime(0), 0);
        due("who was away is not", () -> book.book(0), 40);
        due("it ran as planned", () -> book.overtime(0), 6 * 4);
        due("away can be told again", () -> book.away(0, 0), 1);
        book.unbook(0);
        book.book(0);
        due("and the other one", () -> book.away(0, 1), 1);
        due("who was away is cast", () -> book.castAt(0, 0, 0), 0);
    }

    private void unbookRefused() {
        says(22, "service: the service", "Throws IndexOutOfBoundsException if there is no such service",
                "Throws UnsupportedOperationException if it is not booked");
        due("the first of none", () -> book.unbook(0), INDEX);
        two();
        due("not booked yet", () -> book.unbook(0), UNSUPPORTED);
        book.book(0);
        due("another one is", () -> book.unbook(1), UNSUPPORTED);
        book.away(0, 0);
        book.away(0, 1);
        due("booked without any work", () -> book.unbook(0), 0);
        due("not booked any more", () -> book.unbook(0), UNSUPPORTED);
        book.book(1);
        numbered("service", 2, service -> book.unbook(service));
    }

    // ---- 23 ----

    private void isBooked() {
        says(23, "Returns whether a service is booked.", "Returns whether it is.", "service: the service",
                "Throws IndexOutOfBoundsException if there is no such service");
        due("the first of none", () -> book.isBooked(0), INDEX);
        two();
        due("not yet", () -> book.isBooked(0), false);
        book.book(0);
        due("booked", () -> book.isBooked(0), true);
        due("the other one not", () -> book.isBooked(1), false);
        book.away(0, 0);
        book.away(0, 1);
        due("without any work", () -> book.isBooked(0), true);
        book.unbook(0);
        due("no more", () -> book.isBooked(0), false);
        numbered("service", 2, service -> book.isBooked(service));
    }

    // ---- 24 ----

    private void away() {
        says(24, "Tells that a player is away from a booked service.", "Returns the works that stand then, as bits.");
        alsoTerms("it stays booked by that, also with no work.");
        halls(1);
        players(40, 60);
        book.addPlayer(1, 0, 10);
        work(10, 1);
        work(10, 0, 1);
        concert(5, 0, 1);
        book.book(0);
        due("another one plays", () -> book.away(0, 0), 3);
        due("the other one", () -> book.castAt(0, 0, 0), 1);
        due("costs more", () -> book.cost(0), 70);
        due("nobody is left for the second work", () -> book.away(0, 2), 1);
        due("it is left out", () -> book.stands(0, 1), false);
        due("nobody is left at all", () -> book.away(0, 1), 0);
        due("it stays booked", () -> book.isBooked(0), true);
        due("at no cost", () -> book.cost(0), 0);
        due("nobody is booked", () -> book.services(1), 0);
        due("it is sound", () -> book.isSound(), true);
    }

    private void awayRefused() {
        says(24, "service: the service", "player: the player",
                "Throws IndexOutOfBoundsException if there is no such service or player",
                "Throws UnsupportedOperationException if it is not booked, or that was told");
        due("the first of none", () -> book.away(0, 0), INDEX);
        players(10);
        due("a player, but no service", () -> book.away(0, 0), INDEX);
        book = new Seasonbook();
        halls(1);
        bookedConcert(5, work(10));
        due("a service, but no player", () -> book.away(0, 0), INDEX);
        book = new Seasonbook();
        two();
        due("not booked", () -> book.away(0, 0), UNSUPPORTED);
        book.book(0);
        due("another one is booked", () -> book.away(1, 0), UNSUPPORTED);
        due("not told yet", () -> book.away(0, 1), 1);
        due("that was told", () -> book.away(0, 1), UNSUPPORTED);
        due("of another player not yet", () -> book.away(0, 0), 0);
        due("that was told too", () -> book.away(0, 0), UNSUPPORTED);
        due("that was told, still", () -> book.away(0, 1), UNSUPPORTED);
        book.unbook(0);
        due("booked no more", () -> book.away(0, 0), UNSUPPORTED);
        book.book(0);
        book.book(1);
        numbered("service", 2, service -> book.away(service, 0));
        numbered("player", 2, player -> book.away(0, player));
    }

    private void awayAsIfBookedNow() {
        terms(AWAY);
        halls(1);
        book.addPlayer(0, 0, 40);
        book.addPlayer(1, 0, 50);
        work(10, 1);
        book.addWork(10, false);
        book.setParts(1, 0, 1);
        concert(5, 0, 1);
        book.book(0);
        book.ran(0, 20);
        book.hire(1, 5, 1, 1);
        players(30);
        book.refuse(2, 1, true);
        due("not hired as it was booked", () -> book.stands(0, 1), false);
        due("of one who was not cast", () -> book.away(0, 1), 3);
        due("the new player is cheaper", () -> book.castAt(0, 0, 0), 2);
        due("but refuses this", () -> book.castAt(0, 1, 0), 0);
        due("it ran as was told", () -> book.overtime(0), 10 * (3 + 4));
        due("the new one away", () -> book.away(0, 2), 3);
        due("those who are away stay away", () -> book.castAt(0, 0, 0), 0);
        due("one cast for both", () -> book.cost(0), 40);
    }

    private void awayLooksAtEverything() {
        terms("it is cast anew, as if it were booked now, without those who are away,");
        halls(2);
        players(10, 10, 10);
        work(10, 1);
        bookedConcert(5, 0);
        bookedConcert(15, 0);
        due("the second one is cast with who has no service", () -> book.castAt(1, 0, 0), 1);
        book.away(0, 2);
        due("the service itself does not count", () -> book.castAt(0, 0, 0), 0);
        booked('s', 5, 70, 4, 1, 0);
        due("the third one with who has none", () -> book.castAt(2, 0, 0), 2);
        due("away from one is not away from another one", () -> book.away(2, 0), 1);
        due("still the fewest others", () -> book.castAt(2, 0, 0), 2);
        book.leave(1, 5, 5);
        due("leave counts", () -> book.away(0, 0), 0);
    }

    // ---- 25 ----

    private void stands() {
        says(25, "Returns whether a work stands in a booked service.", "Returns whether so, false if it is not booked.");
        two();
        work(10);
        due("not booked", () -> book.stands(0, 0), false);
        book.book(0);
        due("stands", () -> book.stands(0, 0), true);
        due("left out", () -> book.stands(0, 1), false);
        due("not in it", () -> book.stands(0, 2), false);
        due("in a service that is not booked", () -> book.stands(1, 0), false);
        book.away(0, 0);
        due("stands with another one", () -> book.stands(0, 0), true);
        book.away(0, 1);
        due("stands no more", () -> book.stands(0, 0), false);
        book.unbook(0);
        book.book(0);
        due("stands again", () -> book.stands(0, 0), true);
        book.unbook(0);
        due("booked no more", () -> book.stands(0, 0), false);
    }

    private void standsOfNone() {
        says(25, "service: the service", "work: the work",
                "Throws IndexOutOfBoundsException if there is no such service or work");
        due("the first of none", () -> book.stands(0, 0), INDEX);
        work(10);
        due("a work, but no service", () -> book.stands(0, 0), INDEX);
        book = new Seasonbook();
        halls(1);
        concert(5);
        due("a service, but no work", () -> book.stands(0, 0), INDEX);
        book = new Seasonbook();
        two();
        numbered("service", 2, service -> book.stands(service, 0));
        numbered("work", 2, work -> book.stands(0, work));
    }

    // ---- 26 ----

    private void castAt() {
        says(26, "Returns who plays a part.", "part: the part, from 0, by instruments", "Returns the player.");
        halls(1);
        book.addPlayer(2, 0, 10);
        book.addPlayer(0, 0, 20);
        book.addPlayer(2, 0, 30);
        work(10, 1, 0, 2);
        work(10, 0, 0, 1);
        bookedConcert(5, 1, 0);
        due("by instruments first", () -> book.castAt(0, 0, 0), 1);
        due("then the others", () -> book.castAt(0, 0, 1), 0);
        due("and the last", () -> book.castAt(0, 0, 2), 2);
        due("of another work", () -> book.castAt(0, 1, 0), 0);
    }

    private void castAtRefused() {
        says(26, "service: the service", "work: the work",
                "Throws IndexOutOfBoundsException if there is no such service or work",
                "Throws NoSuchElementException if the work does not stand there, or there is no such part");
        due("the first of none", () -> book.castAt(0, 0, 0), INDEX);
        work(10);
        due("a work, but no service", () -> book.castAt(0, 0, 0), INDEX);
        book = new Seasonbook();
        two();
        work(10);
        work(10, 1);
        book.add(0, 2);
        due("not booked", () -> book.castAt(0, 0, 0), NO_ELEMENT);
        book.book(0);
        due("the only part", () -> book.castAt(0, 0, 0), 0);
        due("part -1", () -> book.castAt(0, 0, -1), NO_ELEMENT);
        due("part 1 of 1", () -> book.castAt(0, 0, 1), NO_ELEMENT);
        due("far off", () -> book.castAt(0, 0, MOST), NO_ELEMENT);
        due("far below", () -> book.castAt(0, 0, LEAST), NO_ELEMENT);
        due("32 parts on", () -> book.castAt(0, 0, 32), NO_ELEMENT);
        due("left out", () -> book.castAt(0, 1, 0), NO_ELEMENT);
        due("without parts", () -> book.castAt(0, 2, 0), NO_ELEMENT);
        due("not in it", () -> book.castAt(0, 3, 0), NO_ELEMENT);
        due("in another one that is not booked", () -> book.castAt(1, 0, 0), NO_ELEMENT);
        numbered("service", 2, service -> book.castAt(service, 0, 0));
        numbered("work", 4, work -> book.castAt(0, work, 0));
        book.unbook(0);
        due("no more booked", () -> book.castAt(0, 0, 0), NO_ELEMENT);
    }

    private void castAtOfTenParts() {
        says(26, "part: the part, from 0, by instruments", "or there is no such part");
        halls(1);
        for (int player = 0; player < 14; player++) {
            book.addPlayer(player % 6, 63, 999);
        }
        work(10, 2, 2, 2, 2, 1, 1);
        work(10, 4, 4, 2);
        concert(5, 0);
        due("all play their own", () -> book.book(0), 9990);
        int[] due = {0, 6, 1, 7, 2, 8, 3, 9, 4, 5};
        for (int part = 0; part < 10; part++) {
            int looked = part;
            due("part " + part, () -> book.castAt(0, 0, looked), due[part]);
        }
        due("an eleventh", () -> book.castAt(0, 0, 10), NO_ELEMENT);
        concert(9, 1);
        due("two double", () -> book.book(1), 9990 + 20);
        due("all are sound", () -> book.isSound(), true);
    }

    // ---- 27 ----

    private void cost() {
        says(27, "Returns what a service costs, overtime aside.", "Returns the cost, 0 if it is not booked.");
        alsoTerms(COST);
        halls(1);
        book.addPlayer(0, 2, 40);
        book.addPlayer(1, 0, 70);
        book.addGuest(1000, 4);
        work(10, 1);
        work(10, 0, 1);
        soloWork(10, 0, 1, 1);
        work(10, 1, 1);
        concert(5, 0, 1, 2, 3);
        book.engage(0, 0);
        due("not booked", () -> book.cost(0), 0);
        due("as book answers", () -> book.book(0), 40 + 10 + 70 + 1000);
        due("each wage once, a doubling, a fee of what does not stand", () -> book.cost(0), 1120);
        book.ran(0, 32);
        due("overtime aside", () -> book.cost(0), 1120);
        book.away(0, 1);
        due("one plays two works and doubles in one", () -> book.cost(0), 40 + 10 + 1000);
        book.away(0, 0);
        due("nothing stands", () -> book.cost(0), 1000);
        book.unbook(0);
        due("not booked any more", () -> book.cost(0), 0);
    }

    private void costRefused() {
        says(27, "service: the service", "Throws IndexOutOfBoundsException if there is no such service");
        due("the first of none", () -> book.cost(0), INDEX);
        two();
        numbered("service", 2, service -> book.cost(service));
    }
}
