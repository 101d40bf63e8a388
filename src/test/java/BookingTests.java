/** Promises 21 to 27: bookings, casts, who is away, and costs. */
final class BookingTests extends Promises {
    BookingTests(Check check) {
        super(check);
    }

    @Override
    void run() {
        book();
        leftOut();
        unbook();
        isBooked();
        away();
        awayAsIfBookedNow();
        stands();
        castAt();
        castCostsLeast();
        castAlready();
        castIsFair();
        castIsFirst();
        castIsFirstAcrossInstruments();
        manyParts();
        cost();
    }

    private void book() {
        begin("21 book");
        due("no such service", () -> book.book(0), INDEX);
        book.addHall(0, 96);
        book.addPlayer(0, 0, 40);
        work(10, 1);
        work(10, 0, 1);
        work(10);
        concert(5);
        due("service -1", () -> book.book(-1), INDEX);
        due("without works", () -> book.book(0), UNSUPPORTED);
        book.add(0, 1);
        due("no work left", () -> book.book(0), UNSUPPORTED);
        due("not booked", () -> book.isBooked(0), false);
        book.add(0, 0);
        due("one left", () -> book.book(0), 40);
        due("it is booked", () -> book.book(0), UNSUPPORTED);
        concert(9, 2);
        due("a work without parts", () -> book.book(1), 0);
        due("stands", () -> book.stands(1, 2), true);
    }

    private void leftOut() {
        begin("21 book: what is left out");
        book.addHall(0, 96);
        book.addPlayer(0, 0, 40);
        book.addGuest(100, 2 | 4);
        book.addWork(10, false);
        soloWork(10);
        work(10);
        soloWork(10, 1);
        book.hire(0, 20, 1, 1);
        concert(19, 0, 2);
        concert(20, 0, 1, 2, 3);
        book.book(0);
        due("no score yet", () -> book.stands(0, 0), false);
        book.book(1);
        due("a score", () -> book.stands(1, 0), true);
        due("no soloist", () -> book.stands(1, 1), false);
        due("needs no soloist", () -> book.stands(1, 2), true);
        book.unbook(1);
        book.engage(1, 0);
        due("with the fee", () -> book.book(1), 100);
        due("a soloist", () -> book.stands(1, 1), true);
        due("the guest does not know it", () -> book.stands(1, 3), false);
        due("players of what is left out are not booked", () -> book.services(0), 0);
        service('r', 20, 70, 4, 0, 1);
        due("a rehearsal needs the soloist too", () -> book.book(2), UNSUPPORTED);
        service('s', 28, 70, 4, 0, 0);
        due("a session needs the score too", () -> book.book(3), UNSUPPORTED);
    }

    private void unbook() {
        begin("22 unbook");
        due("no such service", () -> book.unbook(0), INDEX);
        book.addHall(0, 96);
        book.addPlayer(0, 0, 40);
        book.addPlayer(0, 0, 60);
        work(10, 1);
        concert(5, 0);
        due("not booked", () -> book.unbook(0), UNSUPPORTED);
        book.book(0);
        book.away(0, 0);
        book.ran(0, 32);
        due("what it cost, overtime aside", () -> book.unbook(0), 60);
        due("not booked any more", () -> book.unbook(0), UNSUPPORTED);
        due("costs nothing", () -> book.cost(0), 0);
        due("nor overtime", () -> book.overtime(0), 0);
        due("nobody is booked", () -> book.services(1), 0);
        due("nothing stands", () -> book.stands(0, 0), false);
        due("who was away is not", () -> book.book(0), 40);
        due("it ran as planned", () -> book.overtime(0), 6 * 4);
        due("away can be told again", () -> book.away(0, 0), 1);
    }

    private void isBooked() {
        begin("23 isBooked");
        due("no such service", () -> book.isBooked(0), INDEX);
        book.addHall(0, 96);
        work(10);
        concert(5, 0);
        due("service -1", () -> book.isBooked(-1), INDEX);
        due("not yet", () -> book.isBooked(0), false);
        book.book(0);
        due("booked", () -> book.isBooked(0), true);
        book.unbook(0);
        due("no more", () -> book.isBooked(0), false);
    }

    private void away() {
        begin("24 away");
        due("no such service", () -> book.away(0, 0), INDEX);
        book.addHall(0, 96);
        book.addPlayer(0, 0, 40);
        book.addPlayer(0, 0, 60);
        book.addPlayer(1, 0, 10);
        work(10, 1);
        work(10, 0, 1);
        concert(5, 0, 1);
        due("no such player", () -> book.away(0, 3), INDEX);
        due("player -1", () -> book.away(0, -1), INDEX);
        due("not booked", () -> book.away(0, 0), UNSUPPORTED);
        book.book(0);
        due("another one plays", () -> book.away(0, 0), 3);
        due("told", () -> book.away(0, 0), UNSUPPORTED);
        due("the other one", () -> book.castAt(0, 0, 0), 1);
        due("costs more", () -> book.cost(0), 70);
        due("nobody is left", () -> book.away(0, 2), 1);
        due("the second work is left out", () -> book.stands(0, 1), false);
        due("no work", () -> book.away(0, 1), 0);
        due("it stays booked", () -> book.isBooked(0), true);
        due("at no cost", () -> book.cost(0), 0);
        due("nobody is booked", () -> book.services(1), 0);
    }

    private void awayAsIfBookedNow() {
        begin("24 away: cast as if it were booked now");
        book.addHall(0, 96);
        book.addPlayer(0, 0, 40);
        book.addPlayer(1, 0, 50);
        work(10, 1);
        book.addWork(10, false);
        book.setParts(1, 0, 1);
        concert(5, 0, 1);
        book.book(0);
        book.ran(0, 20);
        book.hire(1, 5, 1, 1);
        book.addPlayer(0, 0, 30);
        book.refuse(2, 1, true);
        due("not hired as it was booked", () -> book.stands(0, 1), false);
        due("of one who was not cast", () -> book.away(0, 1), 3);
        due("the new player is cheaper", () -> book.castAt(0, 0, 0), 2);
        due("but refuses this", () -> book.castAt(0, 1, 0), 0);
        due("it ran as was told", () -> book.overtime(0), 10 * (3 + 4));
        due("the new one away", () -> book.away(0, 2), 3);
        due("as before", () -> book.castAt(0, 0, 0), 0);
    }

    private void stands() {
        begin("25 stands");
        book.addHall(0, 96);
        work(10);
        work(10, 1);
        due("no such service", () -> book.stands(0, 0), INDEX);
        work(10);
        concert(5, 0, 1);
        due("no such work", () -> book.stands(0, 3), INDEX);
        due("work -1", () -> book.stands(0, -1), INDEX);
        due("not booked", () -> book.stands(0, 0), false);
        book.book(0);
        due("stands", () -> book.stands(0, 0), true);
        due("left out", () -> book.stands(0, 1), false);
        due("not in it", () -> book.stands(0, 2), false);
    }

    private void castAt() {
        begin("26 castAt");
        book.addHall(0, 96);
        book.addPlayer(2, 0, 10);
        book.addPlayer(0, 0, 20);
        book.addPlayer(2, 0, 30);
        work(10, 1, 0, 2);
        work(10);
        work(10, 0, 1);
        due("no such service", () -> book.castAt(0, 0, 0), INDEX);
        concert(5, 0, 1, 2);
        due("no such work", () -> book.castAt(0, 3, 0), INDEX);
        due("work -1", () -> book.castAt(0, -1, 0), INDEX);
        due("not booked", () -> book.castAt(0, 0, 0), NO_ELEMENT);
        book.book(0);
        due("by instruments first", () -> book.castAt(0, 0, 0), 1);
        due("then the others", () -> book.castAt(0, 0, 1), 0);
        due("and the last", () -> book.castAt(0, 0, 2), 2);
        due("part -1", () -> book.castAt(0, 0, -1), NO_ELEMENT);
        due("no such part", () -> book.castAt(0, 0, 3), NO_ELEMENT);
        due("far off", () -> book.castAt(0, 0, MOST), NO_ELEMENT);
        due("without parts", () -> book.castAt(0, 1, 0), NO_ELEMENT);
        due("left out", () -> book.castAt(0, 2, 0), NO_ELEMENT);
        book.unbook(0);
        due("no more booked", () -> book.castAt(0, 0, 0), NO_ELEMENT);
    }

    private void castCostsLeast() {
        begin("26 castAt: a cast costs least");
        book.addHall(0, 96);
        book.addPlayer(0, 1, 100);
        book.addPlayer(1, 3, 89);
        book.addPlayer(1, 2, 200);
        work(10, 1);
        work(10, 0, 1);
        work(10, 1, 1);
        concert(5, 0);
        due("a doubling for less", () -> book.book(0), 99);
        due("who doubles", () -> book.castAt(0, 0, 0), 1);
        concert(9, 1, 2);
        due("both parts, one cast already", () -> book.book(1), 189);
        due("who plays the own one", () -> book.castAt(1, 2, 1), 1);
        concert(13, 2, 0);
        due("the second work pays no wage of the first", () -> book.book(2), 189);
        due("own instrument without wage", () -> book.castAt(2, 0, 0), 0);
        book.away(2, 0);
        due("a doubling for each work", () -> book.cost(2), 89 + 200 + 10 + 10);
    }

    private void castAlready() {
        begin("26 castAt: who is cast already costs no wage at all");
        book.addHall(0, 96);
        book.addPlayer(0, 2, 10);
        book.addPlayer(1, 0, 11);
        work(10, 1);
        work(10, 0, 1);
        concert(5, 0, 1);
        due("a doubling is cheaper than another wage", () -> book.book(0), 20);
        due("by one", () -> book.castAt(0, 1, 0), 0);
        book.addPlayer(1, 0, 10);
        concert(10, 0, 1);
        due("as dear as another wage", () -> book.book(1), 20);
        due("so the one with fewer services", () -> book.castAt(1, 1, 0), 2);
        concert(15, 0, 1);
        book.away(1, 2);
        book.book(2);
        due("as dear, with fewer services", () -> book.castAt(2, 1, 0), 2);
        book.unbook(2);
        book.unbook(1);
        book.unbook(0);
        book.book(0);
        due("as dear, with as many: the first", () -> book.castAt(0, 1, 0), 0);
    }

    private void castIsFair() {
        begin("26 castAt: of like ones the fewest other services");
        book.addHall(0, 96);
        book.addPlayer(0, 0, 10);
        book.addPlayer(0, 0, 10);
        book.addPlayer(0, 0, 10);
        work(10, 1);
        work(10, 2);
        bookedConcert(5, 0);
        bookedConcert(10, 0);
        bookedConcert(15, 1);
        due("first", () -> book.castAt(0, 0, 0), 0);
        due("then another one", () -> book.castAt(1, 0, 0), 1);
        due("the third is fresh", () -> book.castAt(2, 1, 1), 2);
        due("and of like ones the first", () -> book.castAt(2, 1, 0), 0);
        bookedConcert(20, 1);
        due("1 and 2 have fewer", () -> book.castAt(3, 1, 0), 1);
        due("2 too", () -> book.castAt(3, 1, 1), 2);
        book.away(3, 0);
        due("the service itself does not count", () -> book.castAt(3, 1, 0), 1);
        concert(25, 0, 1);
        book.book(4);
        due("all have two", () -> book.castAt(4, 0, 0), 0);
        due("who is cast costs least", () -> book.castAt(4, 1, 0), 0);
        due("of like ones the first", () -> book.castAt(4, 1, 1), 1);
    }

    private void castIsFirst() {
        begin("26 castAt: of like ones the first, part by part");
        book.addHall(0, 96);
        book.addPlayer(1, 1, 10);
        book.addPlayer(0, 2, 10);
        book.addPlayer(1, 1, 10);
        book.addPlayer(0, 2, 10);
        work(10, 1, 1);
        work(10, 2, 2);
        concert(5, 0);
        due("no doubling is cheaper than the first order", () -> book.book(0), 20);
        due("instrument 0", () -> book.castAt(0, 0, 0), 1);
        due("instrument 1", () -> book.castAt(0, 0, 1), 0);
        concert(9, 1);
        book.book(1);
        due("the first of two", () -> book.castAt(1, 1, 0), 1);
        due("the second of two", () -> book.castAt(1, 1, 1), 3);
        due("of the next instrument", () -> book.castAt(1, 1, 2), 0);
        due("the last", () -> book.castAt(1, 1, 3), 2);
    }

    private void castIsFirstAcrossInstruments() {
        begin("26 castAt: of like ones the first, across instruments");
        book.addHall(0, 96);
        book.addPlayer(5, 2, 10);
        book.addPlayer(5, 3, 10);
        book.addPlayer(5, 3, 10);
        work(10, 1, 1);
        bookedConcert(5, 0);
        due("the lowest who can play the first part", () -> book.castAt(0, 0, 0), 1);
        due("then the lowest for the second", () -> book.castAt(0, 0, 1), 0);
        book.addPlayer(5, 1, 10);
        work(10, 2, 1);
        bookedConcert(10, 1);
        due("the first of those with the fewest services", () -> book.castAt(1, 1, 0), 1);
        due("who had none is in", () -> book.castAt(1, 1, 1), 3);
        due("and the other one who had none", () -> book.castAt(1, 1, 2), 2);
    }

    private void manyParts() {
        begin("26 castAt: ten parts of six instruments");
        book.addHall(0, 96);
        for (int player = 0; player < 14; player++) {
            book.addPlayer(player % 6, 63, 999);
        }
        work(10, 2, 2, 2, 2, 1, 1);
        work(10, 4, 4, 2);
        concert(5, 0);
        due("all play their own", () -> book.book(0), 9990);
        int[] due = {0, 6, 1, 7, 2, 8, 3, 9, 4, 5};
        for (int part = 0; part < 10; part++) {
            int looked = part;
            due("part " + part, () -> book.castAt(0, 0, looked), due[part]);
        }
        concert(9, 1);
        due("three double", () -> book.book(1), 9990 + 20);
        due("all are sound", () -> book.isSound(), true);
    }

    private void cost() {
        begin("27 cost");
        due("no such service", () -> book.cost(0), INDEX);
        book.addHall(0, 96);
        book.addPlayer(0, 2, 40);
        book.addPlayer(1, 0, 70);
        book.addGuest(1000, 4);
        work(10, 1);
        work(10, 0, 1);
        soloWork(10, 0, 0, 0);
        concert(5, 0, 1, 2);
        due("service -1", () -> book.cost(-1), INDEX);
        book.engage(0, 0);
        due("not booked", () -> book.cost(0), 0);
        due("as book answers", () -> book.book(0), 1050);
        due("each once, a doubling, a fee", () -> book.cost(0), 1050);
        book.ran(0, 32);
        due("overtime aside", () -> book.cost(0), 1050);
    }
}
