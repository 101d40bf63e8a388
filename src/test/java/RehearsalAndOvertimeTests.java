/** Promises 30 to 33: the order of calls, who waits, how long a service ran and what that costs. */
final class RehearsalAndOvertimeTests extends Promises {
    RehearsalAndOvertimeTests(Check check) {
        super(check);
    }

    @Override
    void run() {
        callAt();
        firstOfLikeOrders();
        waiting();
        waitingOfAll();
        ran();
        overtime();
    }

    private void callAt() {
        begin("30 callAt");
        due("no such service", () -> book.callAt(0, 0), INDEX);
        book.addHall(0, 96);
        book.addPlayer(0, 0, 10);
        book.addPlayer(1, 0, 10);
        work(10, 1);
        work(20, 0, 1);
        work(30, 1);
        work(5, 0, 0, 1);
        service('r', 5, 40, 8, 0, 2, 3, 1, 0);
        due("not booked", () -> book.callAt(0, 0), UNSUPPORTED);
        book.book(0);
        due("the first", () -> book.callAt(0, 0), 0);
        due("the second, ahead of a lower one", () -> book.callAt(0, 1), 2);
        due("the third", () -> book.callAt(0, 2), 1);
        due("only what stands", () -> book.callAt(0, 3), NO_ELEMENT);
        due("index -1", () -> book.callAt(0, -1), NO_ELEMENT);
        due("far off", () -> book.callAt(0, LEAST), NO_ELEMENT);
        due("service -1", () -> book.callAt(-1, 0), INDEX);
        bookedConcert(9, 0);
        due("a concert", () -> book.callAt(1, 0), UNSUPPORTED);
        due("a concert, no index", () -> book.callAt(1, -1), UNSUPPORTED);
        booked('s', 12, 40, 8, 0, 0);
        due("a session", () -> book.callAt(2, 0), UNSUPPORTED);
        book.away(0, 0);
        due("called anew", () -> book.callAt(0, 0), 1);
        book.away(0, 1);
        due("none at all", () -> book.callAt(0, 0), NO_ELEMENT);
        book.unbook(0);
        due("no more booked", () -> book.callAt(0, 0), UNSUPPORTED);
    }

    private void firstOfLikeOrders() {
        begin("30 callAt: of like ones the order that is first");
        book.addHall(0, 96);
        book.addPlayer(0, 0, 10);
        book.addPlayer(1, 0, 10);
        work(7, 1, 1);
        work(7, 0, 1);
        work(7, 1);
        work(7);
        bookedRehearsal(5, 3, 2, 1, 0);
        due("nobody waits", () -> book.waiting(0), 0);
        due("the both cannot be first", () -> book.callAt(0, 0), 1);
        due("then the both", () -> book.callAt(0, 1), 0);
        due("then the other one", () -> book.callAt(0, 2), 2);
        due("nobody's work last", () -> book.callAt(0, 3), 3);
    }

    private void waiting() {
        begin("31 waiting");
        due("no such service", () -> book.waiting(0), INDEX);
        book.addHall(0, 96);
        for (int player = 0; player < 3; player++) {
            book.addPlayer(player, 0, 10);
        }
        work(10, 1, 1);
        work(20, 0, 1, 1);
        work(30, 1, 0, 1);
        service('r', 5, 40, 8, 0, 0, 1, 2);
        due("not booked", () -> book.waiting(0), UNSUPPORTED);
        book.book(0);
        due("one waits in the shortest", () -> book.waiting(0), 10);
        due("which is in the middle", () -> book.callAt(0, 1), 0);
        bookedConcert(9, 0);
        due("a concert", () -> book.waiting(1), UNSUPPORTED);
        book.away(0, 0);
        due("one work left", () -> book.waiting(0), 0);
        book.away(0, 1);
        due("none left", () -> book.waiting(0), 0);
    }

    private void waitingOfAll() {
        begin("31 waiting: minutes of all players");
        book.addHall(0, 96);
        for (int player = 0; player < 6; player++) {
            book.addPlayer(player, 0, 10);
        }
        work(9, 1, 1, 1);
        work(8, 1, 0, 0, 1, 1);
        work(7, 0, 1, 0, 1, 0, 1);
        work(6, 0, 0, 1, 0, 1, 1);
        work(5, 1, 0, 0, 0, 0, 1);
        work(4, 0, 1, 0, 0, 1);
        bookedRehearsal(5, 0, 1, 2, 3, 4, 5);
        due("the least of 720 orders", () -> book.waiting(0), 42);
        int[] order = {0, 3, 5, 2, 1, 4};
        for (int index = 0; index < 6; index++) {
            int looked = index;
            due("call " + index, () -> book.callAt(0, looked), order[index]);
        }
    }

    private void ran() {
        begin("32 ran");
        due("no such service", () -> book.ran(0, 0), INDEX);
        book.addHall(0, 96);
        book.addPlayer(0, 0, 19);
        book.addPlayer(1, 0, 255);
        book.addPlayer(2, 0, 9);
        book.addPlayer(3, 0, 900);
        work(10, 1, 1, 1);
        work(10, 1);
        service('c', 5, 40, 8, 0, 0, 1);
        due("3 quarters", () -> book.ran(0, 3), ARGUMENT);
        due("33 quarters", () -> book.ran(0, 33), ARGUMENT);
        due("not booked", () -> book.ran(0, 4), UNSUPPORTED);
        book.book(0);
        due("service -1", () -> book.ran(-1, 4), INDEX);
        due("4 quarters", () -> book.ran(0, 4), 0);
        due("10 quarters", () -> book.ran(0, 10), 0);
        due("11 quarters", () -> book.ran(0, 11), 1 + 25);
        due("32 quarters", () -> book.ran(0, 32), 22 * 26);
        due("told anew", () -> book.ran(0, 12), 52);
    }

    private void overtime() {
        begin("33 overtime");
        due("no such service", () -> book.overtime(0), INDEX);
        book.addHall(0, 96);
        book.addPlayer(0, 0, 19);
        book.addPlayer(0, 0, 35);
        work(10, 1);
        service('r', 5, 40, 12, 0, 0);
        due("not booked", () -> book.overtime(0), 0);
        book.book(0);
        due("as long as planned", () -> book.overtime(0), 2);
        book.ran(0, 8);
        due("shorter", () -> book.overtime(0), 0);
        book.ran(0, 13);
        due("longer", () -> book.overtime(0), 3);
        book.away(0, 0);
        due("of those who are cast by now", () -> book.overtime(0), 9);
        book.unbook(0);
        due("no more booked", () -> book.overtime(0), 0);
        due("service -1", () -> book.overtime(-1), INDEX);
    }
}
