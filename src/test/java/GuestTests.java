/** Promises 16 to 20: guests, where they are, who engages them and what becomes of a service if they cancel. */
final class GuestTests extends Promises {
    GuestTests(Check check) {
        super(check);
    }

    @Override
    void run() {
        cancelAmongOthers();
        addGuest();
        elsewhere();
        engage();
        engageNear();
        cancelGuest();
        cancelForAnother();
        cancelOfLikeFees();
        cancelUnbooked();
        guestOf();
    }

    private void addGuest() {
        begin("16 addGuest");
        due("fee -1", () -> book.addGuest(-1, 0), ARGUMENT);
        due("fee 10000", () -> book.addGuest(10000, 0), ARGUMENT);
        due("knows -1", () -> book.addGuest(0, -1), ARGUMENT);
        due("knows 4096", () -> book.addGuest(0, 4096), ARGUMENT);
        due("the least", () -> book.addGuest(0, 0), 0);
        due("the most", () -> book.addGuest(9999, 4095), 1);
        for (int number = 2; number < 5; number++) {
            int due = number;
            due("guest " + number, () -> book.addGuest(1, 1), due);
        }
        due("a sixth", () -> book.addGuest(1, 1), STATE);
        due("a sixth out of range", () -> book.addGuest(1, 4096), ARGUMENT);
        due("still five", () -> book.elsewhere(5, 0), INDEX);
    }

    private void elsewhere() {
        begin("17 elsewhere");
        due("no such guest", () -> book.elsewhere(0, -1), INDEX);
        book.addGuest(1, 1);
        due("guest -1", () -> book.elsewhere(-1, 0), INDEX);
        due("day -1", () -> book.elsewhere(0, -1), ARGUMENT);
        due("day 400", () -> book.elsewhere(0, 400), ARGUMENT);
        due("day 399", () -> book.elsewhere(0, 399), 1);
        due("day 399 again", () -> book.elsewhere(0, 399), 1);
        for (int day = 0; day < 19; day++) {
            int told = day;
            due("day " + day, () -> book.elsewhere(0, told), told + 2);
        }
        due("a twenty-first", () -> book.elsewhere(0, 19), STATE);
        due("a twenty-first out of range", () -> book.elsewhere(0, 400), ARGUMENT);
        due("one of the twenty", () -> book.elsewhere(0, 18), 20);
        book.addGuest(1, 1);
        due("another guest", () -> book.elsewhere(1, 19), 1);
    }

    private void engage() {
        begin("18 engage");
        book.addHall(0, 96);
        soloWork(10);
        work(10);
        soloWork(10);
        due("no such service", () -> book.engage(0, 0), INDEX);
        concert(5, 0, 1);
        due("no such guest", () -> book.engage(0, 0), INDEX);
        book.addGuest(10, 1);
        book.addGuest(20, 1 | 2);
        book.addGuest(30, 2 | 4);
        due("service -1", () -> book.engage(-1, 0), INDEX);
        due("guest -1", () -> book.engage(0, -1), INDEX);
        due("guest 3", () -> book.engage(0, 3), INDEX);
        due("knows none that needs a soloist", () -> book.engage(0, 2), UNSUPPORTED);
        due("none before", () -> book.engage(0, 0), -1);
        due("another one", () -> book.engage(0, 1), 0);
        due("anew", () -> book.engage(0, 1), 1);
        service('c', 5, 70, 10, 0, 0);
        due("engaged on that day", () -> book.engage(1, 1), UNSUPPORTED);
        due("free again", () -> book.engage(1, 0), -1);
        concert(6, 0);
        due("the next day", () -> book.engage(2, 0), -1);
        book.book(0);
        due("it is booked", () -> book.engage(0, 1), UNSUPPORTED);
        due("no such guest for a booked one", () -> book.engage(0, 3), INDEX);
        due("what a guest plays stands", () -> book.stands(0, 0), true);
        due("the fee is paid", () -> book.cost(0), 20);
        book.remove(1, 0);
        due("stays without the work", () -> book.guestOf(1), 0);
        due("but not anew", () -> book.engage(1, 0), UNSUPPORTED);
    }

    private void engageNear() {
        begin("18 engage: elsewhere near that day");
        book.addHall(0, 96);
        soloWork(10);
        concert(100, 0);
        for (int guest = 0; guest < 4; guest++) {
            book.addGuest(10, 1);
        }
        book.elsewhere(0, 94);
        book.elsewhere(1, 93);
        book.elsewhere(2, 106);
        book.elsewhere(3, 107);
        due("6 days ahead", () -> book.engage(0, 0), UNSUPPORTED);
        due("7 days ahead", () -> book.engage(0, 1), -1);
        due("6 days behind", () -> book.engage(0, 2), UNSUPPORTED);
        due("7 days behind", () -> book.engage(0, 3), 1);
        book.elsewhere(3, 100);
        due("told too late", () -> book.guestOf(0), 3);
        due("but not anew", () -> book.engage(0, 3), UNSUPPORTED);
    }

    private void cancelGuest() {
        begin("19 cancelGuest: none instead");
        due("no such service", () -> book.cancelGuest(0), INDEX);
        book.addHall(0, 96);
        book.addPlayer(0, 0, 40);
        book.addPlayer(1, 0, 50);
        soloWork(10, 1);
        work(10, 0, 1);
        concert(5, 0, 1);
        due("it has none", () -> book.cancelGuest(0), NO_ELEMENT);
        book.addGuest(100, 1);
        book.engage(0, 0);
        due("booked", () -> book.book(0), 190);
        due("none instead", () -> book.cancelGuest(0), -1);
        due("none again", () -> book.cancelGuest(0), NO_ELEMENT);
        due("the work is left out", () -> book.stands(0, 0), false);
        due("the other one stands", () -> book.stands(0, 1), true);
        due("its cast stays", () -> book.castAt(0, 1, 0), 1);
        due("who is left out is paid no more", () -> book.cost(0), 50);
        due("nor booked", () -> book.services(0), 0);
        due("the other one is", () -> book.services(1), 1);
        due("still booked", () -> book.isBooked(0), true);
        concert(9, 0);
        book.engage(1, 0);
        book.book(1);
        book.cancelGuest(1);
        due("booked without any work", () -> book.isBooked(1), true);
        due("at no cost", () -> book.cost(1), 0);
        due("sound", () -> book.isSound(), true);
    }

    private void cancelAmongOthers() {
        begin("19 cancelGuest: the works around what is left out");
        book.addHall(0, 96);
        for (int player = 0; player < 4; player++) {
            book.addPlayer(player, 0, 10 + player);
        }
        work(10, 1);
        soloWork(10, 1, 1);
        work(10, 0, 0, 1);
        soloWork(10, 0, 0, 0, 1);
        concert(5, 0, 1, 2, 3);
        book.addGuest(100, 2 | 8);
        book.engage(0, 0);
        book.book(0);
        book.cancelGuest(0);
        due("the first work's player stays booked", () -> book.services(0), 1);
        due("the second work's own one does not", () -> book.services(1), 0);
        due("the third work's does", () -> book.services(2), 1);
        due("the last one's does not", () -> book.services(3), 0);
        due("two are paid", () -> book.cost(0), 22);
    }

    private void cancelForAnother() {
        begin("19 cancelGuest: another one");
        book.addHall(0, 96);
        book.addPlayer(0, 0, 40);
        soloWork(10, 1);
        soloWork(10, 1);
        soloWork(10, 1);
        work(10, 1);
        book.addGuest(100, 1 | 2);
        book.addGuest(5, 1 | 4);
        book.addGuest(90, 1 | 2 | 4);
        book.addGuest(80, 1 | 2);
        book.addGuest(50, 1 | 2 | 4);
        book.elsewhere(4, 11);
        concert(5, 0, 1, 2, 3);
        book.engage(0, 0);
        due("the third work is left out", () -> book.book(0), 140);
        due("the least fee of those who know both", () -> book.cancelGuest(0), 3);
        due("the fee is another one", () -> book.cost(0), 120);
        service('c', 5, 70, 10, 0, 0);
        due("the one who cancelled is free", () -> book.engage(1, 0), -1);
        due("not the one who is engaged on that day", () -> book.cancelGuest(0), 2);
        due("what stood stands", () -> book.stands(0, 1), true);
        due("what was left out stays so, even if known", () -> book.stands(0, 2), false);
        due("away casts anew", () -> book.away(0, 0), 0);
        due("the fee is paid whatever stands", () -> book.cost(0), 90);
        due("who is elsewhere is not engaged", () -> book.cancelGuest(0), -1);
        due("no fee any more", () -> book.cost(0), 0);
        due("sound", () -> book.isSound(), true);
    }

    private void cancelOfLikeFees() {
        begin("19 cancelGuest: of like fees the lowest");
        book.addHall(0, 96);
        soloWork(10);
        concert(5, 0);
        book.addGuest(0, 1);
        book.addGuest(7, 1);
        book.addGuest(7, 1);
        book.addGuest(6, 2);
        book.engage(0, 2);
        due("the least fee", () -> book.cancelGuest(0), 0);
        due("the lowest of like ones", () -> book.cancelGuest(0), 1);
        due("not the one who cancels", () -> book.cancelGuest(0), 0);
    }

    private void cancelUnbooked() {
        begin("19 cancelGuest: a service that is not booked");
        book.addHall(0, 96);
        soloWork(10);
        soloWork(10);
        concert(5, 0, 1);
        book.addGuest(10, 1);
        book.addGuest(20, 2);
        book.engage(0, 0);
        due("another one must know the work", () -> book.cancelGuest(0), -1);
        book.engage(0, 0);
        book.remove(0, 0);
        due("the work was taken out", () -> book.cancelGuest(0), 1);
        due("the other work has its soloist", () -> book.book(0), 20);
    }

    private void guestOf() {
        begin("20 guestOf");
        due("no such service", () -> book.guestOf(0), INDEX);
        book.addHall(0, 96);
        soloWork(10);
        concert(5, 0);
        book.addGuest(10, 1);
        book.addGuest(10, 1);
        due("service -1", () -> book.guestOf(-1), INDEX);
        due("none", () -> book.guestOf(0), NO_ELEMENT);
        book.engage(0, 1);
        due("the guest", () -> book.guestOf(0), 1);
        book.book(0);
        due("of a booked one", () -> book.guestOf(0), 1);
        book.unbook(0);
        due("still engaged", () -> book.guestOf(0), 1);
        book.cancelGuest(0);
        due("the one instead", () -> book.guestOf(0), 0);
    }
}
