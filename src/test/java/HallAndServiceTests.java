/** Promises 10 to 15: halls, services, their works and series. */
final class HallAndServiceTests extends Promises {
    HallAndServiceTests(Check check) {
        super(check);
    }

    @Override
    void run() {
        addHall();
        give();
        addService();
        addServiceRefused();
        add();
        addTooLong();
        remove();
        setSeries();
        seriesForbids();
    }

    private void addHall() {
        begin("10 addHall");
        due("from -1", () -> book.addHall(-1, 50), ARGUMENT);
        due("from 93", () -> book.addHall(93, 97), ARGUMENT);
        due("3 quarters", () -> book.addHall(10, 13), ARGUMENT);
        due("to 97", () -> book.addHall(10, 97), ARGUMENT);
        due("far off", () -> book.addHall(MOST, LEAST), ARGUMENT);
        due("4 quarters", () -> book.addHall(92, 96), 0);
        due("the whole day", () -> book.addHall(0, 96), 1);
        due("early", () -> book.addHall(0, 4), 2);
        due("a fourth", () -> book.addHall(5, 60), 3);
        due("a fifth", () -> book.addHall(5, 60), STATE);
        due("a fifth out of range", () -> book.addHall(5, 8), ARGUMENT);
        due("still four", () -> book.give(4, 0, true), INDEX);
    }

    private void give() {
        begin("11 give");
        due("no such hall", () -> book.give(0, -1, true), INDEX);
        book.addHall(0, 96);
        book.addHall(0, 96);
        due("day -1", () -> book.give(0, -1, true), ARGUMENT);
        due("day 400", () -> book.give(0, 400, true), ARGUMENT);
        due("hall -1", () -> book.give(-1, 0, true), INDEX);
        due("not before", () -> book.give(0, 31, true), false);
        due("before", () -> book.give(0, 31, true), true);
        due("the day behind", () -> book.give(0, 32, false), false);
        due("the last day", () -> book.give(0, 399, true), false);
        due("the other hall", () -> book.give(1, 31, false), false);
        due("others have it", () -> book.addService('r', 31, 40, 4, 0), UNSUPPORTED);
        due("taken back", () -> book.give(0, 31, false), true);
        due("others have it no more", () -> book.addService('r', 31, 40, 4, 0), 0);
        due("a service in it", () -> book.give(0, 31, true), UNSUPPORTED);
        due("a service in it, taken back", () -> book.give(0, 31, false), UNSUPPORTED);
        due("a service in another one", () -> book.give(1, 31, true), false);
        due("day 0", () -> book.give(1, 0, true), false);
        due("day 0 again", () -> book.give(1, 0, false), true);
        book.addHall(0, 96);
        for (int day = 0; day < 400; day++) {
            int told = day;
            due("each day is its own, " + day, () -> book.give(2, told, told % 3 != 1), false);
        }
        for (int day = 0; day < 400; day++) {
            int told = day;
            due("each day as was told, " + day, () -> book.give(2, told, false), told % 3 != 1);
        }
    }

    private void addService() {
        begin("12 addService");
        due("no such hall", () -> book.addService('x', -1, -1, 0, 0), INDEX);
        book.addHall(20, 60);
        due("hall -1", () -> book.addService('r', 0, 20, 4, -1), INDEX);
        due("no such kind", () -> book.addService('C', 0, 20, 4, 0), ARGUMENT);
        due("kind 0", () -> book.addService((char) 0, 0, 20, 4, 0), ARGUMENT);
        due("day -1", () -> book.addService('r', -1, 20, 4, 0), ARGUMENT);
        due("day 400", () -> book.addService('r', 400, 20, 4, 0), ARGUMENT);
        due("start -1", () -> book.addService('r', 0, -1, 4, 0), ARGUMENT);
        due("start 96", () -> book.addService('r', 0, 96, 4, 0), ARGUMENT);
        due("start far off", () -> book.addService('r', 0, MOST, 4, 0), ARGUMENT);
        due("3 quarters", () -> book.addService('r', 0, 20, 3, 0), ARGUMENT);
        due("17 quarters", () -> book.addService('r', 0, 20, 17, 0), ARGUMENT);
        due("start 95, not open", () -> book.addService('r', 0, 95, 4, 0), UNSUPPORTED);
        due("not open yet", () -> book.addService('r', 0, 19, 4, 0), UNSUPPORTED);
        due("not open any more", () -> book.addService('s', 0, 57, 4, 0), UNSUPPORTED);
        due("as it opens", () -> book.addService('r', 0, 20, 4, 0), 0);
        due("up to its end", () -> book.addService('s', 0, 44, 16, 0), 1);
        due("between, too near behind", () -> book.addService('c', 0, 27, 4, 0), UNSUPPORTED);
        due("between, too near ahead", () -> book.addService('c', 0, 36, 5, 0), UNSUPPORTED);
        due("at the same time", () -> book.addService('c', 0, 45, 4, 0), UNSUPPORTED);
        due("between", () -> book.addService('c', 0, 28, 12, 0), 2);
        due("another day", () -> book.addService('c', 399, 28, 12, 0), 3);
    }

    private void addServiceRefused() {
        book.addHall(0, 96);
        due("another hall", () -> book.addService('c', 0, 21, 4, 1), 4);
        for (int number = 5; number < 30; number++) {
            int due = number;
            due("service " + number, () -> book.addService('c', due, 40, 4, 1), due);
        }
        due("a thirty-first", () -> book.addService('c', 99, 40, 4, 1), STATE);
        due("a thirty-first too near", () -> book.addService('c', 29, 40, 4, 1), UNSUPPORTED);
        due("a thirty-first out of range", () -> book.addService('c', 29, 40, 3, 1), ARGUMENT);
        due("still thirty", () -> book.isBooked(30), INDEX);
        due("the day stays free for others", () -> book.give(1, 99, true), false);
    }

    private void add() {
        begin("13 add");
        book.addHall(0, 96);
        for (int work = 0; work < 8; work++) {
            work(10);
        }
        due("no such service", () -> book.add(0, 0), INDEX);
        concert(5);
        due("service -1", () -> book.add(-1, 0), INDEX);
        due("no such work", () -> book.add(0, 8), INDEX);
        due("work -1", () -> book.add(0, -1), INDEX);
        due("a first", () -> book.add(0, 4), 1);
        due("it has it", () -> book.add(0, 4), UNSUPPORTED);
        for (int work = 5; work < 8; work++) {
            int due = work - 3;
            int added = work;
            due("work " + work, () -> book.add(0, added), due);
        }
        due("a fifth", () -> book.add(0, 0), 5);
        due("a sixth", () -> book.add(0, 1), 6);
        due("a seventh", () -> book.add(0, 2), UNSUPPORTED);
        due("no such work in a full one", () -> book.add(0, 9), INDEX);
        book.remove(0, 1);
        book.book(0);
        due("it is booked", () -> book.add(0, 2), UNSUPPORTED);
        book.unbook(0);
        due("it is booked no more", () -> book.add(0, 2), 6);
    }

    private void addTooLong() {
        begin("13 add: too long");
        book.addHall(0, 96);
        work(40);
        work(20);
        work(1);
        concert(1);
        service('c', 2, 40, 4, 0, 0);
        due("61 minutes with 20 of 60", () -> book.add(1, 2), UNSUPPORTED);
        service('r', 3, 40, 4, 0, 0);
        due("60 of 60 in a rehearsal", () -> book.add(2, 1), 2);
        due("61 of 60 in a rehearsal", () -> book.add(2, 2), UNSUPPORTED);
        service('s', 4, 40, 4, 0, 0, 1);
        due("61 of 60 in a session", () -> book.add(3, 2), UNSUPPORTED);
        book.remove(3, 0);
        due("21 of 60", () -> book.add(3, 2), 2);
        work(90);
        service('s', 4, 60, 5, 0);
        due("90 of 75", () -> book.add(4, 3), UNSUPPORTED);
        service('s', 5, 60, 6, 0);
        due("90 of 90", () -> book.add(5, 3), 1);
        service('c', 6, 60, 7, 0);
        due("110 of 105", () -> book.add(6, 3), UNSUPPORTED);
        service('c', 7, 60, 8, 0);
        due("110 of 120", () -> book.add(7, 3), 1);
    }

    private void remove() {
        begin("14 remove");
        book.addHall(0, 96);
        work(10);
        work(10);
        work(10);
        due("no such service", () -> book.remove(0, 0), INDEX);
        service('r', 5, 40, 8, 0, 2, 0);
        due("no such work", () -> book.remove(0, 3), INDEX);
        due("work -1", () -> book.remove(0, -1), INDEX);
        due("it has it not", () -> book.remove(0, 1), UNSUPPORTED);
        book.book(0);
        due("it is booked", () -> book.remove(0, 0), UNSUPPORTED);
        due("no such work in a booked one", () -> book.remove(0, 3), INDEX);
        book.unbook(0);
        due("the first", () -> book.remove(0, 2), 1);
        due("again", () -> book.remove(0, 2), UNSUPPORTED);
        due("the last", () -> book.remove(0, 0), 0);
        due("none is left to be booked", () -> book.book(0), UNSUPPORTED);
        orderStays();
    }

    private void orderStays() {
        begin("14 remove: the order of the others stays");
        book.addHall(0, 96);
        book.addPlayer(0, 2, 50);
        book.addPlayer(1, 1, 45);
        work(10, 1);
        work(10, 0, 1);
        work(10);
        service('r', 5, 40, 8, 0, 2, 0, 1);
        book.remove(0, 2);
        book.book(0);
        due("the first work's player doubles", () -> book.castAt(0, 0, 0), 0);
        book.unbook(0);
        book.remove(0, 0);
        book.add(0, 0);
        book.book(0);
        due("cast as the second", () -> book.castAt(0, 0, 0), 1);
    }

    private void setSeries() {
        begin("15 setSeries");
        book.addHall(0, 96);
        work(10);
        due("no such service", () -> book.setSeries(0, 9), INDEX);
        concert(5, 0);
        service('r', 6, 40, 4, 0, 0);
        service('s', 7, 40, 4, 0, 0);
        due("series -2", () -> book.setSeries(0, -2), ARGUMENT);
        due("series 4", () -> book.setSeries(0, 4), ARGUMENT);
        due("a rehearsal out of range", () -> book.setSeries(1, 4), ARGUMENT);
        due("a rehearsal", () -> book.setSeries(1, 0), UNSUPPORTED);
        due("a session, none", () -> book.setSeries(2, -1), UNSUPPORTED);
        due("none before", () -> book.setSeries(0, 3), -1);
        due("the same again", () -> book.setSeries(0, 3), 3);
        due("none", () -> book.setSeries(0, -1), 3);
        due("0", () -> book.setSeries(0, 0), -1);
        due("0 before", () -> book.setSeries(0, 1), 0);
        book.book(0);
        due("a booked one", () -> book.setSeries(0, 2), 1);
    }

    private void seriesForbids() {
        begin("15 setSeries and 13 add: the series forbids");
        book.addHall(0, 96);
        work(10);
        work(10);
        concert(150, 0, 1);
        concert(249, 1);
        concert(250, 1);
        concert(51, 0);
        concert(50, 0);
        book.setSeries(0, 2);
        due("99 days behind", () -> book.setSeries(1, 2), UNSUPPORTED);
        due("100 days behind", () -> book.setSeries(2, 2), -1);
        due("99 days ahead", () -> book.setSeries(3, 2), UNSUPPORTED);
        due("100 days ahead", () -> book.setSeries(4, 2), -1);
        due("another series", () -> book.setSeries(1, 1), -1);
        due("none, whatever is in it", () -> book.setSeries(3, -1), -1);
        concert(200);
        due("without a work", () -> book.setSeries(5, 2), -1);
        due("then the work", () -> book.add(5, 0), UNSUPPORTED);
        due("out of the series", () -> book.setSeries(5, -1), 2);
        due("then without the series", () -> book.add(5, 0), 1);
        due("and back", () -> book.setSeries(5, 2), UNSUPPORTED);
        concert(350);
        book.setSeries(6, 2);
        due("100 days from one of it", () -> book.add(6, 1), 1);
        due("a work not in the others", () -> book.add(6, 0), 2);
        work(10);
        concert(300);
        book.setSeries(7, 2);
        due("a work that is in none", () -> book.add(7, 2), 1);
        due("a work of 50 days later", () -> book.add(7, 0), UNSUPPORTED);
        due("a work of both", () -> book.add(7, 1), UNSUPPORTED);
        service('c', 150, 70, 10, 0, 1);
        due("on the same day", () -> book.setSeries(8, 2), UNSUPPORTED);
    }
}
