/** Promises 16 to 20, and what the terms say of guests: where they are, who engages them, and who cancels. */
final class GuestTests extends Promises {
    private static final String CANCEL_WHO = "If a guest cancels a service, another one with the least fee, of like ones "
            + "the lowest, who knows all works in it that need a soloist and that the one who cancels knows, and could be "
            + "engaged, is engaged for it;";
    private static final String CANCEL_NONE = "if there is none, the service has none, and works with a soloist are left "
            + "out.";

    GuestTests(Check check) {
        super(check);
    }

    @Override
    void run() {
        addGuest();
        fees();
        knows();
        fiveGuests();
        elsewhere();
        twentyDays();
        elsewhereRefused();
        engage();
        engageRefused();
        engageBooked();
        engageWhoKnows();
        engageNear();
        engageNearAtTheEndsOfTheYear();
        engageOnThatDay();
        hasItsSoloist();
        cancelRefused();
        cancelForTheLeastFee();
        cancelForOneWhoKnowsAll();
        cancelForOneWhoCouldBeEngaged();
        cancelForNone();
        cancelAmongOthers();
        cancelOfSixWorks();
        cancelChangesNoCasts();
        cancelUnbooked();
        guestOf();
    }

    private void guests(int... knows) {
        for (int bits : knows) {
            book.addGuest(10, bits);
        }
    }

    // ---- 16 ----

    private void addGuest() {
        says(16, "Adds a guest.", "fee: the fee", "knows: the works that are known, as bits from 0 to 4095",
                "Throws IllegalArgumentException if a number is out of range");
        range("fee", 0, 9999, fee -> book.addGuest(fee, 0));
        range("knows", 0, 4095, knows -> book.addGuest(0, knows));
        due("four were added", () -> book.addGuest(0, 0), 4);
        due("who are elsewhere on no day yet", () -> book.elsewhere(4, 5), 1);
    }

    private void fees() {
        says(16, "fee: the fee");
        alsoTerms("each with a fee of 0 to 9999,");
        halls(1);
        soloWork(10);
        book.addGuest(0, 1);
        book.addGuest(9999, 1);
        concert(5, 0);
        book.engage(0, 0);
        due("the least fee", () -> book.book(0), 0);
        book.unbook(0);
        book.engage(0, 1);
        due("the greatest fee", () -> book.book(0), 9999);
    }

    private void knows() {
        says(16, "knows: the works that are known, as bits");
        alsoTerms("and works that are known, as bits;");
        halls(1);
        for (int number = 0; number < 12; number++) {
            soloWork(10);
        }
        players(1);
        guests(1 | 2048, 2 | 1024, 4095, 0);
        concert(5, 0, 1, 10, 11);
        book.engage(0, 0);
        book.book(0);
        due("bits 0 and 11", () -> book.away(0, 0), 1 | 2048);
        book.unbook(0);
        book.engage(0, 1);
        book.book(0);
        due("bits 1 and 10", () -> book.away(0, 0), 2 | 1024);
        book.unbook(0);
        book.engage(0, 2);
        book.book(0);
        due("all bits", () -> book.away(0, 0), 1 | 2 | 1024 | 2048);
        book.unbook(0);
        due("none", () -> book.engage(0, 3), UNSUPPORTED);
    }

    private void fiveGuests() {
        says(16, "Returns the number.", "Throws IllegalStateException if there are 5");
        alsoTerms("Guests. At most 5 are numbered from 0,");
        for (int number = 0; number < 5; number++) {
            int due = number;
            due("guest " + number, () -> book.addGuest(5, 1), due);
        }
        due("a sixth", () -> book.addGuest(5, 1), STATE);
        numbered("elsewhere of guest", 5, guest -> book.elsewhere(guest, 0));
    }

    // ---- 17 ----

    private void elsewhere() {
        says(17, "Tells a day on which a guest is elsewhere.", "Returns how many such days there are, each once.");
        alsoTerms("each is told to be elsewhere on some days.");
        guests(1, 1);
        due("a day", () -> book.elsewhere(0, 50), 1);
        due("the same day", () -> book.elsewhere(0, 50), 1);
        due("the next day", () -> book.elsewhere(0, 51), 2);
        due("day 0", () -> book.elsewhere(0, 0), 3);
        due("day 399", () -> book.elsewhere(0, 399), 4);
        due("the first one again", () -> book.elsewhere(0, 50), 4);
        due("another guest", () -> book.elsewhere(1, 50), 1);
    }

    private void twentyDays() {
        says(17, "Throws IllegalStateException if there are 20, and it is another one");
        guests(1, 1);
        for (int number = 1; number <= 20; number++) {
            int due = number;
            due("day " + 10 * number, () -> book.elsewhere(0, 10 * due), due);
        }
        due("a twenty-first", () -> book.elsewhere(0, 399), STATE);
        due("the day behind the last one", () -> book.elsewhere(0, 201), STATE);
        due("the last one of the twenty", () -> book.elsewhere(0, 200), 20);
        due("the first one of the twenty", () -> book.elsewhere(0, 10), 20);
        due("another guest", () -> book.elsewhere(1, 399), 1);
        halls(1);
        soloWork(10);
        concert(399, 0);
        due("the twenty-first was not told", () -> book.engage(0, 0), -1);
    }

    private void elsewhereRefused() {
        says(17, "guest: the guest", "day: the day", "Throws IndexOutOfBoundsException if there is no such guest",
                "Throws IllegalArgumentException if a number is out of range");
        due("the first of none", () -> book.elsewhere(0, 0), INDEX);
        guests(1, 1);
        range("day", 0, 399, day -> book.elsewhere(0, day));
        numbered("guest", 2, guest -> book.elsewhere(guest, 0));
    }

    // ---- 18 ----

    private void engage() {
        says(18, "Engages a guest, in place of another one.", "Returns the one before, -1 for none.");
        alsoTerms("A guest is engaged for a service that is not booked, perhaps anew,");
        two();
        due("none before", () -> book.engage(0, 0), -1);
        due("anew", () -> book.engage(0, 0), 0);
        due("another one", () -> book.engage(0, 1), 0);
        due("is engaged", () -> book.guestOf(0), 1);
        due("the first one again", () -> book.engage(0, 0), 1);
        due("for another service", () -> book.engage(1, 0), -1);
        due("for the first one still", () -> book.guestOf(0), 0);
    }

    private void engageRefused() {
        says(18, "service: the service", "guest: the guest",
                "Throws IndexOutOfBoundsException if there is no such service or guest");
        due("the first of none", () -> book.engage(0, 0), INDEX);
        guests(1);
        due("a guest, but no service", () -> book.engage(0, 0), INDEX);
        book = new Seasonbook();
        halls(1);
        concert(5, soloWork(10));
        due("a service, but no guest", () -> book.engage(0, 0), INDEX);
        book = new Seasonbook();
        two();
        numbered("service", 2, service -> book.engage(service, 0));
        numbered("guest", 2, guest -> book.engage(0, guest));
    }

    private void engageBooked() {
        says(18, "Throws UnsupportedOperationException if it is booked,");
        alsoTerms("for a service that is not booked,");
        two();
        book.engage(0, 0);
        book.book(0);
        due("in place of another one", () -> book.engage(0, 1), UNSUPPORTED);
        due("anew", () -> book.engage(0, 0), UNSUPPORTED);
        book.book(1);
        due("without a guest", () -> book.engage(1, 0), UNSUPPORTED);
        book.unbook(0);
        due("booked no more", () -> book.engage(0, 1), 0);
    }

    private void engageWhoKnows() {
        says(18, "or the guest cannot be engaged");
        alsoTerms("who knows a work in it that needs a soloist,");
        halls(1);
        soloWork(10);
        work(10);
        soloWork(10);
        soloWork(10);
        concert(5, 0, 1, 2);
        concert(6);
        guests(0, 2, 8, 4, 4095);
        due("knows none", () -> book.engage(0, 0), UNSUPPORTED);
        due("knows one that needs no soloist", () -> book.engage(0, 1), UNSUPPORTED);
        due("knows one that is not in it", () -> book.engage(0, 2), UNSUPPORTED);
        due("knows one of two", () -> book.engage(0, 3), -1);
        due("knows all", () -> book.engage(0, 4), 3);
        due("no work is in it", () -> book.engage(1, 4), UNSUPPORTED);
        book.add(1, 1);
        due("no work in it needs a soloist", () -> book.engage(1, 4), UNSUPPORTED);
        book.remove(0, 0);
        book.remove(0, 2);
        due("stays when all these are taken out", () -> book.guestOf(0), 4);
        due("but not anew", () -> book.engage(0, 4), UNSUPPORTED);
    }

    private void engageNear() {
        terms("is not elsewhere less than 7 days ahead of its day or behind it,");
        halls(1);
        soloWork(10);
        concert(100, 0);
        guests(1, 1, 1, 1, 1);
        book.elsewhere(0, 94);
        book.elsewhere(1, 93);
        book.elsewhere(2, 106);
        book.elsewhere(3, 107);
        book.elsewhere(4, 100);
        due("6 days ahead", () -> book.engage(0, 0), UNSUPPORTED);
        due("7 days ahead", () -> book.engage(0, 1), -1);
        due("6 days behind", () -> book.engage(0, 2), UNSUPPORTED);
        due("7 days behind", () -> book.engage(0, 3), 1);
        due("on its day", () -> book.engage(0, 4), UNSUPPORTED);
        book.elsewhere(3, 200);
        book.elsewhere(3, 99);
        due("told when it is engaged", () -> book.guestOf(0), 3);
        due("but not anew", () -> book.engage(0, 3), UNSUPPORTED);
        due("the third day told", () -> book.engage(0, 1), 3);
    }

    private void engageNearAtTheEndsOfTheYear() {
        terms("less than 7 days ahead of its day or behind it,");
        halls(1);
        soloWork(10);
        concert(0, 0);
        concert(399, 0);
        guests(1, 1, 1, 1);
        book.elsewhere(0, 6);
        book.elsewhere(1, 7);
        book.elsewhere(2, 393);
        book.elsewhere(3, 392);
        due("6 days behind day 0", () -> book.engage(0, 0), UNSUPPORTED);
        due("7 days behind day 0", () -> book.engage(0, 1), -1);
        due("6 days ahead of day 399", () -> book.engage(1, 2), UNSUPPORTED);
        due("7 days ahead of day 399", () -> book.engage(1, 3), -1);
        due("the ends are no neighbours", () -> book.engage(1, 0), 3);
    }

    private void engageOnThatDay() {
        terms("and not engaged for another service on that day.");
        halls(2);
        soloWork(10);
        guests(1, 1);
        service('c', 5, 0, 4, 0, 0);
        service('r', 5, 90, 4, 0, 0);
        service('s', 5, 90, 4, 1, 0);
        service('c', 4, 90, 4, 0, 0);
        service('c', 6, 0, 4, 0, 0);
        book.engage(0, 0);
        due("later on that day", () -> book.engage(1, 0), UNSUPPORTED);
        due("in another hall", () -> book.engage(2, 0), UNSUPPORTED);
        due("anew for the same", () -> book.engage(0, 0), 0);
        due("another guest", () -> book.engage(1, 1), -1);
        due("the day ahead", () -> book.engage(3, 0), -1);
        due("the day behind", () -> book.engage(4, 0), -1);
        book.engage(3, 1);
        book.engage(0, 0);
        book.cancelGuest(0);
        due("cancelled on that day, nobody else could be", () -> book.guestOf(0), NO_ELEMENT);
        due("so it can be", () -> book.engage(2, 0), -1);
        due("and not for the first one", () -> book.engage(0, 0), UNSUPPORTED);
        book.book(2);
        book.unbook(2);
        due("nor behind a booking", () -> book.engage(0, 0), UNSUPPORTED);
    }

    private void hasItsSoloist() {
        terms("A work has its soloist if the guest of its service knows it.");
        halls(1);
        soloWork(10);
        soloWork(10);
        work(10);
        guests(1, 2);
        concert(5, 0, 1, 2);
        concert(15, 0, 1);
        book.engage(0, 0);
        book.engage(1, 1);
        book.book(0);
        book.book(1);
        due("known", () -> book.stands(0, 0), true);
        due("not known", () -> book.stands(0, 1), false);
        due("needs none", () -> book.stands(0, 2), true);
        due("known in another service", () -> book.stands(1, 1), true);
        due("not known in another service", () -> book.stands(1, 0), false);
    }

    // ---- 19 ----

    private void cancelRefused() {
        says(19, "service: the service", "Throws IndexOutOfBoundsException if there is no such service",
                "Throws NoSuchElementException if it has none");
        due("the first of none", () -> book.cancelGuest(0), INDEX);
        two();
        due("it has none", () -> book.cancelGuest(0), NO_ELEMENT);
        book.book(0);
        due("booked, and has none", () -> book.cancelGuest(0), NO_ELEMENT);
        book.engage(1, 0);
        book.elsewhere(1, 15);
        due("it has one", () -> book.cancelGuest(1), -1);
        due("it has none any more", () -> book.cancelGuest(1), NO_ELEMENT);
        book.engage(1, 0);
        numbered("service", 2, service -> book.cancelGuest(service));
    }

    private void cancelForTheLeastFee() {
        says(19, "Tells that the guest of a service cancels.", "Returns who is engaged instead,");
        alsoTerms(CANCEL_WHO);
        halls(1);
        soloWork(10);
        concert(5, 0);
        book.addGuest(8, 1);
        book.addGuest(7, 1);
        book.addGuest(9, 1);
        book.addGuest(7, 1);
        book.addGuest(0, 2);
        book.engage(0, 2);
        book.book(0);
        due("the least fee, the lowest of like ones", () -> book.cancelGuest(0), 1);
        due("is engaged", () -> book.guestOf(0), 1);
        due("for the own fee", () -> book.cost(0), 7);
        due("the other one of like fees", () -> book.cancelGuest(0), 3);
        due("not the one who cancels, but who cancelled ahead", () -> book.cancelGuest(0), 1);
        due("the work stands all the time", () -> book.stands(0, 0), true);
        book.elsewhere(3, 5);
        due("the next fee", () -> book.cancelGuest(0), 0);
        book.elsewhere(1, 5);
        due("the greatest fee", () -> book.cancelGuest(0), 2);
    }

    private void cancelForOneWhoKnowsAll() {
        terms("who knows all works in it that need a soloist and that the one who cancels knows,");
        halls(1);
        soloWork(10);
        soloWork(10);
        soloWork(10);
        work(10);
        soloWork(10);
        book.addGuest(100, 1 | 2 | 8 | 16);
        book.addGuest(5, 1 | 4 | 8 | 16);
        book.addGuest(90, 1 | 2);
        book.addGuest(80, 2 | 4 | 8 | 16);
        book.addGuest(95, 1 | 2 | 4 | 8);
        concert(5, 0, 1, 2, 3);
        book.engage(0, 0);
        book.book(0);
        due("not who knows one of two, nor need it be all", () -> book.cancelGuest(0), 2);
        due("the next fee of those who know both", () -> book.cancelGuest(0), 4);
        due("now all three must be known", () -> book.cancelGuest(0), -1);
    }

    private void cancelForOneWhoCouldBeEngaged() {
        terms("and could be engaged, is engaged for it;");
        halls(2);
        soloWork(10);
        book.addGuest(100, 1);
        book.addGuest(1, 1);
        book.addGuest(2, 1);
        book.addGuest(3, 1);
        book.addGuest(4, 1);
        concert(50, 0);
        service('c', 50, 40, 16, 1, 0);
        book.engage(0, 0);
        book.engage(1, 1);
        book.book(0);
        book.elsewhere(2, 44);
        book.elsewhere(3, 43);
        book.elsewhere(4, 56);
        due("not on that day elsewhere engaged, nor elsewhere 6 days ahead", () -> book.cancelGuest(0), 3);
        book.elsewhere(0, 57);
        due("elsewhere 7 days behind, not 6", () -> book.cancelGuest(0), 0);
        book.cancelGuest(1);
        due("the other service has the next one", () -> book.guestOf(1), 3);
        due("who cancelled there can be engaged here", () -> book.cancelGuest(0), 1);
        due("guests are engaged once a day", () -> book.isSound(), true);
    }

    private void cancelForNone() {
        says(19, "-1 for none.");
        alsoTerms(CANCEL_NONE);
        halls(1);
        book.addPlayer(0, 0, 40);
        book.addPlayer(1, 0, 50);
        soloWork(10, 1);
        work(10, 0, 1);
        soloWork(10, 1);
        concert(5, 0, 1, 2);
        concert(9, 0);
        guests(1, 4);
        book.engage(0, 0);
        due("booked", () -> book.book(0), 100);
        due("none instead", () -> book.cancelGuest(0), -1);
        due("it has none", () -> book.guestOf(0), NO_ELEMENT);
        due("the work is left out", () -> book.stands(0, 0), false);
        due("it has no cast", () -> book.castAt(0, 0, 0), NO_ELEMENT);
        due("the other one stands", () -> book.stands(0, 1), true);
        due("its cast stays", () -> book.castAt(0, 1, 0), 1);
        due("who is left out is paid no more", () -> book.cost(0), 50);
        due("nor booked", () -> book.services(0), 0);
        due("and can have leave", () -> book.leave(0, 5, 5), 1);
        book.engage(1, 0);
        book.book(1);
        due("none for another one", () -> book.cancelGuest(1), -1);
        due("it is booked without any work", () -> book.isBooked(1), true);
        due("at no cost", () -> book.cost(1), 0);
        due("all is sound", () -> book.isSound(), true);
    }

    private void cancelAmongOthers() {
        terms("and works with a soloist are left out.");
        halls(1);
        for (int player = 0; player < 4; player++) {
            book.addPlayer(player, 0, 10 + player);
        }
        work(10, 1);
        soloWork(10, 1, 1);
        work(10, 0, 0, 1);
        soloWork(10, 0, 0, 0, 1);
        concert(5, 0, 1, 2, 3);
        guests(2 | 8);
        book.engage(0, 0);
        book.book(0);
        book.cancelGuest(0);
        due("the first work's player stays booked", () -> book.services(0), 1);
        due("the second work's own one does not", () -> book.services(1), 0);
        due("the third work's does", () -> book.services(2), 1);
        due("the last one's does not", () -> book.services(3), 0);
        due("two are paid", () -> book.cost(0), 22);
    }

    private void cancelOfSixWorks() {
        terms("and works with a soloist are left out.");
        halls(1);
        players(10, 20);
        for (int number = 0; number < 6; number++) {
            work(10, 1 + number % 2);
            book.setSolo(number, number % 2 == 1);
        }
        guests(4095);
        concert(5, 0, 1, 2, 3, 4, 5);
        book.engage(0, 0);
        due("two players for six works", () -> book.book(0), 40);
        due("none instead", () -> book.cancelGuest(0), -1);
        due("one player for three", () -> book.cost(0), 10);
        due("the last one is left out", () -> book.stands(0, 5), false);
        due("the last but one stands", () -> book.castAt(0, 4, 0), 0);
    }

    private void cancelChangesNoCasts() {
        terms("No other casts are changed by that: what was left out stays so.");
        halls(1);
        players(40);
        soloWork(10, 1);
        soloWork(10, 1);
        work(10, 1);
        work(10, 0, 1);
        book.addGuest(100, 1);
        book.addGuest(90, 1 | 2);
        concert(5, 0, 1, 2, 3);
        book.engage(0, 0);
        due("two are left out", () -> book.book(0), 140);
        players(1);
        book.addPlayer(1, 0, 1);
        due("another guest, who knows both", () -> book.cancelGuest(0), 1);
        due("the one that was not known stays out", () -> book.stands(0, 1), false);
        due("the one that had no cast stays out", () -> book.stands(0, 3), false);
        due("the cast stays, though there is a cheaper player", () -> book.castAt(0, 0, 0), 0);
        due("only the fee is another one", () -> book.cost(0), 130);
        due("with away it is cast anew", () -> book.away(0, 0), 15);
        due("by the cheaper one", () -> book.castAt(0, 0, 0), 1);
        book.away(0, 1);
        book.elsewhere(0, 5);
        due("a fee is paid whatever stands", () -> book.cost(0), 91);
        due("none instead", () -> book.cancelGuest(0), -1);
        due("the one without soloist stands", () -> book.stands(0, 3), true);
        due("no fee any more", () -> book.cost(0), 1);
    }

    private void cancelUnbooked() {
        says(19, "Tells that the guest of a service cancels.");
        halls(1);
        soloWork(10);
        soloWork(10);
        concert(5, 0, 1);
        guests(1, 2);
        book.engage(0, 0);
        due("another one must know the work", () -> book.cancelGuest(0), -1);
        due("nothing stands", () -> book.stands(0, 1), false);
        book.engage(0, 0);
        book.remove(0, 0);
        due("the work was taken out", () -> book.cancelGuest(0), 1);
        due("it is not booked by that", () -> book.isBooked(0), false);
        due("the other work has its soloist", () -> book.book(0), 10);
    }

    // ---- 20 ----

    private void guestOf() {
        says(20, "Returns the guest of a service.", "Returns the guest.", "service: the service",
                "Throws IndexOutOfBoundsException if there is no such service",
                "Throws NoSuchElementException if it has none");
        due("the first of none", () -> book.guestOf(0), INDEX);
        two();
        due("none", () -> book.guestOf(0), NO_ELEMENT);
        book.engage(0, 1);
        due("the guest", () -> book.guestOf(0), 1);
        book.engage(0, 0);
        due("guest 0", () -> book.guestOf(0), 0);
        due("another service has none", () -> book.guestOf(1), NO_ELEMENT);
        book.book(0);
        due("of a booked one", () -> book.guestOf(0), 0);
        book.unbook(0);
        due("still engaged", () -> book.guestOf(0), 0);
        book.cancelGuest(0);
        due("the one instead", () -> book.guestOf(0), 1);
        book.elsewhere(0, 5);
        book.cancelGuest(0);
        due("none any more", () -> book.guestOf(0), NO_ELEMENT);
        book.engage(0, 1);
        numbered("service", 2, service -> book.guestOf(service));
    }
}
