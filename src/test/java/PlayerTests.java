/** Promises 7 to 9: players, leave and refusals; 28 and 29: who is free, and for how many services booked. */
final class PlayerTests extends Promises {
    PlayerTests(Check check) {
        super(check);
    }

    @Override
    void run() {
        addPlayer();
        leave();
        refuse();
        freeOnTheDay();
        freeOverNight();
        freeInTheWeek();
        freeAsPlanned();
        services();
    }

    private void addPlayer() {
        begin("7 addPlayer");
        due("instrument -1", () -> book.addPlayer(-1, 0, 1), ARGUMENT);
        due("instrument 6", () -> book.addPlayer(6, 0, 1), ARGUMENT);
        due("doubles -1", () -> book.addPlayer(0, -1, 1), ARGUMENT);
        due("doubles 64", () -> book.addPlayer(0, 64, 1), ARGUMENT);
        due("wage 0", () -> book.addPlayer(0, 0, 0), ARGUMENT);
        due("wage 1000", () -> book.addPlayer(0, 0, 1000), ARGUMENT);
        due("the least", () -> book.addPlayer(0, 0, 1), 0);
        due("the most", () -> book.addPlayer(5, 63, 999), 1);
        for (int number = 2; number < 14; number++) {
            int due = number;
            due("player " + number, () -> book.addPlayer(0, 1, 5), due);
        }
        due("a fifteenth", () -> book.addPlayer(0, 0, 5), STATE);
        due("a fifteenth out of range", () -> book.addPlayer(0, 0, 0), ARGUMENT);
        due("still fourteen", () -> book.services(14), INDEX);
    }

    private void leave() {
        begin("8 leave");
        due("no such player", () -> book.leave(0, -1, -1), INDEX);
        book.addPlayer(0, 0, 10);
        book.addPlayer(0, 0, 20);
        book.addHall(0, 96);
        bookedConcert(50, work(10, 1));
        due("player -1", () -> book.leave(-1, 0, 0), INDEX);
        due("from -1", () -> book.leave(0, -1, 5), ARGUMENT);
        due("to 400", () -> book.leave(0, 5, 400), ARGUMENT);
        due("to ahead of from", () -> book.leave(0, 6, 5), ARGUMENT);
        due("from 400", () -> book.leave(0, 400, 400), ARGUMENT);
        due("booked on the last day", () -> book.leave(0, 40, 50), UNSUPPORTED);
        due("booked on the first day", () -> book.leave(0, 50, 60), UNSUPPORTED);
        due("another player", () -> book.leave(1, 50, 60), 1);
        due("up to the day ahead", () -> book.leave(0, 0, 49), 1);
        due("from the day behind", () -> book.leave(0, 51, 399), 2);
        due("a day", () -> book.leave(0, 7, 7), 3);
        due("the same again", () -> book.leave(0, 7, 7), 4);
        due("a fifth", () -> book.leave(0, 8, 9), 5);
        due("a sixth", () -> book.leave(0, 8, 9), STATE);
        due("a sixth, booked", () -> book.leave(0, 50, 50), UNSUPPORTED);
        due("a sixth, out of range", () -> book.leave(0, 9, 8), ARGUMENT);
        book.unbook(0);
        due("free if not on leave", () -> book.isFree(0, 0), true);
        due("not free on leave", () -> book.isFree(1, 0), false);
        concert(60);
        due("not free on the last day", () -> book.isFree(1, 1), false);
        concert(61);
        due("free on the day behind", () -> book.isFree(1, 2), true);
    }

    private void refuse() {
        begin("9 refuse");
        due("no such player", () -> book.refuse(0, 0, true), INDEX);
        book.addPlayer(0, 0, 10);
        due("no such work", () -> book.refuse(0, 0, true), INDEX);
        book.addPlayer(0, 0, 20);
        book.addHall(0, 96);
        work(10, 1);
        work(10, 1);
        due("work -1", () -> book.refuse(0, -1, true), INDEX);
        due("player 2", () -> book.refuse(2, 0, true), INDEX);
        due("not before", () -> book.refuse(0, 1, true), false);
        due("before", () -> book.refuse(0, 1, true), true);
        due("the other work not", () -> book.refuse(0, 0, false), false);
        bookedConcert(9, 0, 1);
        due("plays what is not refused", () -> book.castAt(0, 0, 0), 0);
        due("plays not what is refused", () -> book.castAt(0, 1, 0), 1);
        due("no more", () -> book.refuse(0, 1, false), true);
        due("a cast stays", () -> book.castAt(0, 1, 0), 1);
        book.unbook(0);
        book.book(0);
        due("plays it then", () -> book.castAt(0, 1, 0), 0);
        due("refused behind a booking", () -> book.refuse(0, 1, true), false);
        due("stays sound", () -> book.isSound(), true);
        due("the cast stays", () -> book.castAt(0, 1, 0), 0);
        book.refuse(1, 1, true);
        concert(30, 1);
        due("both refuse it", () -> book.book(1), UNSUPPORTED);
    }

    private void freeOnTheDay() {
        begin("28 isFree on a day");
        for (int hall = 0; hall < 4; hall++) {
            book.addHall(0, 96);
        }
        work(10, 1);
        due("no such player", () -> book.isFree(0, 0), INDEX);
        book.addPlayer(0, 0, 10);
        due("no such service", () -> book.isFree(0, 0), INDEX);
        booked('r', 10, 40, 4, 0, 0);
        due("booked, as if it were not", () -> book.isFree(0, 0), true);
        service('r', 10, 45, 4, 1);
        due("1 quarter behind it", () -> book.isFree(0, 1), false);
        service('s', 10, 35, 4, 1);
        due("1 quarter ahead of it", () -> book.isFree(0, 2), false);
        service('s', 10, 30, 4, 0);
        due("further ahead", () -> book.isFree(0, 3), true);
        service('r', 10, 54, 4, 1, 0);
        due("further behind", () -> book.isFree(0, 4), true);
        book.book(4);
        due("a third on the day", () -> book.isFree(0, 3), false);
        due("one of the two", () -> book.isFree(0, 4), true);
        book.unbook(4);
        service('r', 10, 46, 4, 2);
        due("2 quarters behind it", () -> book.isFree(0, 5), true);
        service('r', 10, 34, 4, 2);
        due("2 quarters ahead of it", () -> book.isFree(0, 6), true);
        service('r', 10, 38, 16, 3);
        due("all around it", () -> book.isFree(0, 7), false);
        due("player -1", () -> book.isFree(-1, 0), INDEX);
        due("service -1", () -> book.isFree(0, -1), INDEX);
    }

    private void freeOverNight() {
        begin("28 isFree over night");
        book.addHall(0, 96);
        book.addHall(0, 96);
        book.addPlayer(0, 0, 10);
        work(10, 1);
        booked('c', 10, 80, 12, 0, 0);
        service('r', 11, 39, 4, 0);
        due("43 quarters behind it", () -> book.isFree(0, 1), false);
        service('r', 11, 40, 4, 1);
        due("44 quarters behind it", () -> book.isFree(0, 2), true);
        service('r', 12, 0, 4, 0);
        due("a day between", () -> book.isFree(0, 3), true);
        booked('c', 20, 20, 4, 0, 0);
        service('r', 19, 66, 6, 0);
        due("44 quarters ahead of it", () -> book.isFree(0, 5), true);
        service('r', 19, 66, 7, 1);
        due("43 quarters ahead of it", () -> book.isFree(0, 6), false);
    }

    private void freeInTheWeek() {
        begin("28 isFree in 7 days");
        book.addHall(0, 96);
        book.addPlayer(0, 0, 10);
        work(10, 1);
        for (int day = 100; day < 104; day++) {
            booked('r', day, 40, 4, 0, 0);
            booked('r', day, 50, 4, 0, 0);
        }
        service('r', 106, 40, 4, 0, 0);
        due("a ninth on the 7th day", () -> book.isFree(0, 8), false);
        due("so it has no cast", () -> book.book(8), UNSUPPORTED);
        service('r', 107, 40, 4, 0, 0);
        due("on the 8th day", () -> book.isFree(0, 9), true);
        service('r', 97, 40, 4, 0, 0);
        due("a ninth 6 days ahead", () -> book.isFree(0, 10), false);
        service('r', 96, 40, 4, 0, 0);
        due("7 days ahead", () -> book.isFree(0, 11), true);
        book.unbook(5);
        due("only 7 are booked", () -> book.isFree(0, 8), true);
        book.book(8);
        due("only 7 are booked from 100 to 106, ahead of these", () -> book.isFree(0, 10), true);
        due("8 on these 7 days", () -> book.isFree(0, 5), false);
        due("from 101 on there are 7", () -> book.isFree(0, 9), true);
    }

    private void freeAsPlanned() {
        begin("28 isFree as long as planned");
        book.addHall(0, 96);
        book.addPlayer(0, 0, 10);
        work(10, 1);
        booked('r', 10, 40, 4, 0, 0);
        book.ran(0, 32);
        service('r', 10, 48, 4, 0, 0);
        due("it was planned to end ahead of that", () -> book.isFree(0, 1), true);
        book.away(0, 0);
        due("away does not count", () -> book.isFree(0, 0), true);
    }

    private void services() {
        begin("29 services");
        due("no such player", () -> book.services(0), INDEX);
        book.addHall(0, 96);
        book.addPlayer(0, 0, 10);
        book.addPlayer(0, 0, 20);
        work(10, 1);
        due("player -1", () -> book.services(-1), INDEX);
        due("none", () -> book.services(0), 0);
        service('r', 1, 40, 4, 0, 0);
        due("not booked", () -> book.services(0), 0);
        book.book(0);
        due("booked", () -> book.services(0), 1);
        due("not cast", () -> book.services(1), 0);
        bookedConcert(5, 0);
        due("two", () -> book.services(0), 2);
        book.away(1, 0);
        due("away from one", () -> book.services(0), 1);
        due("cast instead", () -> book.services(1), 1);
        book.unbook(1);
        due("none instead", () -> book.services(1), 0);
    }
}
