/** What the terms say of casts, tried by promises 21 and 26: who plays what, at what cost. */
final class CastTests extends Promises {
    private static final String PLAYED_BY = "A part is played by a player who is free, does not refuse the work, and plays "
            + "that instrument, or doubles it;";
    private static final String FAIR = "of like ones that whose players, all of the work, have the least sum of other "
            + "services for which they are booked by then;";
    private static final String FIRST = "of like ones that which is first, looked at part by part, by instruments, each by "
            + "its player's number.";
    private static final String COSTS = "A cast costs the wages of players who are not cast yet in this service, and 10 for "
            + "each part that is doubled.";

    CastTests(Check check) {
        super(check);
    }

    @Override
    void run() {
        oneByOne();
        oneByOneAndNotTogether();
        whoIsFree();
        whoDoesNotRefuse();
        whoPlaysTheInstrument();
        onePartOfAWork();
        costsLeast();
        castYet();
        castYetForNothing();
        fewestOthers();
        othersOfAllTheWork();
        othersByThen();
        first();
        firstAcrossInstruments();
        nobody();
    }

    private void oneByOne() {
        terms("Casts. To book a service casts its works one by one, in their order.");
        halls(1);
        book.addPlayer(0, 2, 50);
        book.addPlayer(1, 1, 45);
        work(10, 1);
        work(10, 0, 1);
        concert(5, 0, 1);
        concert(10, 1, 0);
        due("the first work's player doubles the second", () -> book.book(0), 60);
        due("player 0 for the first", () -> book.castAt(0, 0, 0), 0);
        due("and for the second", () -> book.castAt(0, 1, 0), 0);
        due("in the other order it is the other one", () -> book.book(1), 55);
        due("player 1 for the first", () -> book.castAt(1, 1, 0), 1);
        due("and for the second", () -> book.castAt(1, 0, 0), 1);
    }

    private void oneByOneAndNotTogether() {
        terms("To book a service casts its works one by one,");
        halls(1);
        book.addPlayer(0, 0, 30);
        book.addPlayer(0, 2, 35);
        book.addPlayer(1, 0, 30);
        work(10, 1);
        work(10, 0, 1);
        concert(5, 0, 1);
        due("the cheapest for each, though 45 would do for both", () -> book.book(0), 60);
        due("for the first", () -> book.castAt(0, 0, 0), 0);
        due("for the second", () -> book.castAt(0, 1, 0), 2);
    }

    private void whoIsFree() {
        terms(PLAYED_BY);
        halls(2);
        players(10, 20, 30);
        work(10, 1);
        book.leave(0, 5, 5);
        bookedConcert(5, 0);
        due("not who is on leave", () -> book.castAt(0, 0, 0), 1);
        service('c', 5, 40, 16, 1, 0);
        due("not who is booked at that time", () -> book.book(1), 30);
        due("the third one", () -> book.castAt(1, 0, 0), 2);
        service('c', 5, 70, 16, 1, 0);
        due("who is free later on that day", () -> book.book(2), 20);
    }

    private void whoDoesNotRefuse() {
        terms("does not refuse the work,");
        halls(1);
        players(10, 20);
        work(10, 1);
        work(10, 2);
        book.refuse(0, 0, true);
        book.refuse(0, 1, true);
        concert(5, 0, 1);
        due("the other one", () -> book.book(0), 20);
        due("the second work has only one", () -> book.stands(0, 1), false);
        book.refuse(0, 1, false);
        book.unbook(0);
        due("the second work has both", () -> book.book(0), 30);
        due("the first one has the other one", () -> book.castAt(0, 0, 0), 1);
    }

    private void whoPlaysTheInstrument() {
        terms("and plays that instrument, or doubles it;");
        halls(1);
        book.addPlayer(1, 4 | 8, 10);
        book.addPlayer(2, 0, 30);
        work(10, 0, 1);
        work(10, 0, 0, 1);
        work(10, 0, 0, 0, 1);
        work(10, 1);
        work(10, 0, 0, 0, 0, 1);
        concert(5, 0, 1, 2, 3, 4);
        due("the own one, two that are doubled", () -> book.book(0), 10 + 10 + 10);
        due("the own one stands", () -> book.stands(0, 0), true);
        due("the one who doubles", () -> book.castAt(0, 1, 0), 0);
        due("the other one that is doubled", () -> book.castAt(0, 2, 0), 0);
        due("nobody plays instrument 0", () -> book.stands(0, 3), false);
        due("nor instrument 4", () -> book.stands(0, 4), false);
    }

    private void onePartOfAWork() {
        terms("a player plays one part of a work at most.");
        halls(1);
        book.addPlayer(0, 2, 10);
        work(10, 2);
        work(10, 1, 1);
        work(10, 1);
        work(10, 0, 1);
        concert(5, 0, 1);
        due("not two parts of one or of two instruments", () -> book.book(0), UNSUPPORTED);
        book.add(0, 2);
        book.add(0, 3);
        due("but one part of each of two works", () -> book.book(0), 20);
        book.unbook(0);
        players(500);
        due("two players for two parts", () -> book.book(0), 10 + 500 + 10 + 10);
        due("of one instrument", () -> book.castAt(0, 0, 1), 1);
        due("of two", () -> book.castAt(0, 1, 0) + 10 * book.castAt(0, 1, 1), 1);
    }

    private void costsLeast() {
        terms("A cast of a work is the one that costs least;");
        halls(1);
        book.addPlayer(0, 1, 100);
        book.addPlayer(1, 3, 89);
        book.addPlayer(1, 2, 200);
        work(10, 1);
        work(10, 0, 1);
        work(10, 1, 1);
        concert(5, 0);
        due("a doubling for 1 less", () -> book.book(0), 99);
        due("who doubles", () -> book.castAt(0, 0, 0), 1);
        concert(9, 1, 2);
        due("both parts, one cast already", () -> book.book(1), 189);
        due("who plays the own one", () -> book.castAt(1, 2, 1), 1);
        concert(13, 2, 0);
        due("the second work pays no wage of the first", () -> book.book(2), 189);
        due("own instrument without wage", () -> book.castAt(2, 0, 0), 0);
        book.away(2, 0);
        due("a doubling for each work", () -> book.cost(2), 89 + 200 + 10 + 10);
    }

    private void castYet() {
        terms(COSTS);
        halls(1);
        book.addPlayer(0, 2, 10);
        book.addPlayer(1, 0, 11);
        work(10, 1);
        work(10, 0, 1);
        concert(5, 0, 1);
        due("a doubling is cheaper than another wage", () -> book.book(0), 20);
        due("by one", () -> book.castAt(0, 1, 0), 0);
        book.addPlayer(1, 0, 10);
        concert(10, 0, 1);
        due("as dear as another wage", () -> book.book(1), 20);
        due("so the one with fewer services", () -> book.castAt(1, 1, 0), 2);
        book.addPlayer(1, 0, 9);
        concert(15, 0, 1);
        due("dearer than another wage", () -> book.book(2), 19);
        due("so another one", () -> book.castAt(2, 1, 0), 3);
        concert(20, 1, 0);
        due("who is cast in the first costs nothing in the second", () -> book.book(3), 19);
    }

    private void castYetForNothing() {
        terms("the wages of players who are not cast yet in this service,");
        halls(1);
        book.addPlayer(0, 2, 10);
        book.addPlayer(1, 0, 10);
        work(10, 1);
        work(10, 0, 1);
        bookedConcert(5, 0, 1);
        due("a doubling as dear as another wage, as many others: the first", () -> book.castAt(0, 1, 0), 0);
        due("one wage, one doubling", () -> book.cost(0), 20);
        work(10, 1);
        bookedConcert(10, 0);
        book.addPlayer(0, 0, 1);
        book.refuse(2, 0, true);
        bookedConcert(15, 0, 2);
        due("who is cast costs less than the least wage, with however many others", () -> book.castAt(2, 2, 0), 0);
        due("one wage", () -> book.cost(2), 10);
    }

    private void fewestOthers() {
        terms(FAIR);
        halls(1);
        players(10, 10, 10);
        work(10, 1);
        work(10, 2);
        bookedConcert(5, 0);
        bookedConcert(10, 0);
        bookedConcert(15, 1);
        due("the first", () -> book.castAt(0, 0, 0), 0);
        due("then another one", () -> book.castAt(1, 0, 0), 1);
        due("the third has none", () -> book.castAt(2, 1, 1), 2);
        due("and of like ones the first", () -> book.castAt(2, 1, 0), 0);
        bookedConcert(20, 1);
        due("1 and 2 have one, 0 has two", () -> book.castAt(3, 1, 0), 1);
        due("both of them", () -> book.castAt(3, 1, 1), 2);
        book.away(3, 0);
        due("the service itself does not count", () -> book.castAt(3, 1, 0), 1);
        bookedConcert(25, 0, 1);
        due("all have two", () -> book.castAt(4, 0, 0), 0);
        due("who is cast costs least", () -> book.castAt(4, 1, 0), 0);
        due("of like ones the first", () -> book.castAt(4, 1, 1), 1);
        players(9);
        bookedConcert(30, 0);
        bookedConcert(35, 0);
        due("who costs less comes first, whatever the others", () -> book.castAt(6, 0, 0), 3);
    }

    private void othersOfAllTheWork() {
        terms("that whose players, all of the work, have the least sum");
        halls(1);
        book.addPlayer(0, 0, 10);
        book.addPlayer(0, 2, 10);
        book.addPlayer(1, 0, 10);
        book.addPlayer(1, 1, 10);
        work(10, 1, 1);
        work(10, 1);
        work(10, 0, 1);
        bookedConcert(5, 1);
        bookedConcert(10, 2);
        due("one service for player 0", () -> book.services(0), 1);
        due("one for player 2", () -> book.services(2), 1);
        bookedConcert(15, 0);
        due("a sum of 0 on instrument 0", () -> book.castAt(2, 0, 0), 1);
        due("and on instrument 1", () -> book.castAt(2, 0, 1), 3);
        bookedConcert(20, 1, 0);
        due("cast in the first", () -> book.castAt(3, 1, 0), 0);
        due("who is cast already counts in the sum", () -> book.castAt(3, 0, 1), 2);
    }

    private void othersByThen() {
        terms("other services for which they are booked by then;");
        halls(1);
        players(10, 10);
        work(10, 1);
        bookedConcert(50, 0);
        bookedConcert(10, 0);
        due("a later day counts too", () -> book.castAt(1, 0, 0), 1);
        concert(60, 0);
        concert(70, 0);
        book.book(2);
        due("as many: the first", () -> book.castAt(2, 0, 0), 0);
        book.unbook(0);
        book.unbook(2);
        due("fewer by then", () -> book.book(3), 10);
        due("what was booked once does not count", () -> book.castAt(3, 0, 0), 0);
        book.book(2);
        due("as many again", () -> book.castAt(2, 0, 0), 0);
        due("a cast from before stays", () -> book.castAt(1, 0, 0), 1);
        booked('r', 80, 40, 4, 0, 0);
        due("one service, other than two", () -> book.castAt(4, 0, 0), 1);
    }

    private void first() {
        terms(FIRST);
        halls(1);
        book.addPlayer(1, 1, 10);
        book.addPlayer(0, 2, 10);
        book.addPlayer(1, 1, 10);
        book.addPlayer(0, 2, 10);
        work(10, 1, 1);
        work(10, 2, 2);
        concert(5, 0);
        due("no doubling is cheaper than the first order", () -> book.book(0), 20);
        due("instrument 0", () -> book.castAt(0, 0, 0), 1);
        due("instrument 1", () -> book.castAt(0, 0, 1), 0);
        concert(9, 1);
        book.book(1);
        due("the first of two", () -> book.castAt(1, 1, 0), 1);
        due("the second of two", () -> book.castAt(1, 1, 1), 3);
        due("of the next instrument", () -> book.castAt(1, 1, 2), 0);
        due("the last", () -> book.castAt(1, 1, 3), 2);
    }

    private void firstAcrossInstruments() {
        terms("looked at part by part, by instruments, each by its player's number.");
        halls(1);
        book.addPlayer(5, 2, 10);
        book.addPlayer(5, 3, 10);
        book.addPlayer(5, 3, 10);
        work(10, 1, 1);
        bookedConcert(5, 0);
        due("the lowest who can play the first part", () -> book.castAt(0, 0, 0), 1);
        due("then the lowest for the second", () -> book.castAt(0, 0, 1), 0);
        book.addPlayer(5, 1, 10);
        work(10, 2, 1);
        bookedConcert(10, 1);
        due("the first of those with the fewest services", () -> book.castAt(1, 1, 0), 1);
        due("who had none is in", () -> book.castAt(1, 1, 1), 3);
        due("and the other one who had none", () -> book.castAt(1, 1, 2), 2);
    }

    private void nobody() {
        terms("A work without parts has a cast of nobody.");
        halls(1);
        work(10);
        work(10);
        bookedConcert(5, 0);
        due("no player is there", () -> book.stands(0, 0), true);
        due("it costs nothing", () -> book.cost(0), 0);
        players(10);
        book.refuse(0, 1, true);
        due("a player who refuses it is no hindrance", () -> book.book(concert(10, 1)), 0);
        due("nobody is cast", () -> book.services(0), 0);
        due("nor plays a part", () -> book.castAt(1, 1, 0), NO_ELEMENT);
        due("away changes nothing", () -> book.away(1, 0), 2);
        due("it is sound", () -> book.isSound(), true);
    }
}
