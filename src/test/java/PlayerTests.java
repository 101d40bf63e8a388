/** Promises 7 to 9, and what the terms say of players. */
final class PlayerTests extends Promises {
    PlayerTests(Check check) {
        super(check);
    }

    @Override
    void run() {
        addPlayer();
        ownInstrument();
        doubles();
        wage();
        fourteenPlayers();
        leaveDays();
        leaveRange();
        leaveAtTheEndsOfTheYear();
        leaveWhenBooked();
        leaveWhenNotBookedAnyMore();
        fiveLeaves();
        refuse();
        refusedWorks();
        refuseOfNone();
    }

    // ---- 7 ----

    private void addPlayer() {
        says(7, "Adds a player.", "instrument: 0 to 5", "doubles: the instruments that are doubled, as bits from 0 to 63,",
                "wage: the wage", "Throws IllegalArgumentException if a number is out of range");
        range("instrument", 0, 5, instrument -> book.addPlayer(instrument, 0, 10));
        range("doubles", 0, 63, doubles -> book.addPlayer(0, doubles, 10));
        range("wage", 1, 999, wage -> book.addPlayer(0, 0, wage));
        due("wage 0", () -> book.addPlayer(0, 0, 0), ARGUMENT);
        due("six were added", () -> book.addPlayer(0, 0, 1), 6);
        due("for no service yet", () -> book.services(6), 0);
    }

    private void ownInstrument() {
        says(7, "instrument: 0 to 5");
        alsoTerms("each with an instrument,");
        halls(1);
        for (int instrument = 0; instrument < 6; instrument++) {
            book.addPlayer(instrument, 0, 10 + instrument);
        }
        work(10, 1, 1, 1, 1, 1, 1);
        bookedConcert(5, 0);
        for (int part = 0; part < 6; part++) {
            int looked = part;
            due("instrument " + part, () -> book.castAt(0, 0, looked), looked);
        }
        due("nobody doubles", () -> book.cost(0), 75);
    }

    private void doubles() {
        says(7, "doubles: the instruments that are doubled, as bits from 0 to 63, the own one of no meaning");
        alsoTerms("others that are doubled, as bits,");
        halls(1);
        book.addPlayer(0, 1 | 2 | 32, 10);
        for (int instrument = 0; instrument < 6; instrument++) {
            work(10);
            book.setParts(instrument, instrument, 1);
        }
        concert(5, 0, 1, 2);
        concert(10, 3, 4, 5);
        due("the own one is not doubled, the next one is", () -> book.book(0), 10 + 10);
        due("bit 0, the own one", () -> book.stands(0, 0), true);
        due("bit 1", () -> book.stands(0, 1), true);
        due("not bit 2", () -> book.stands(0, 2), false);
        due("the last one is doubled", () -> book.book(1), 10 + 10);
        due("not bit 3", () -> book.stands(1, 3), false);
        due("not bit 4", () -> book.stands(1, 4), false);
        due("bit 5", () -> book.stands(1, 5), true);
        book.addPlayer(5, 0, 5);
        concert(15, 5);
        due("the own one without its bit", () -> book.book(2), 5);
    }

    private void wage() {
        says(7, "wage: the wage");
        alsoTerms("and a wage of 1 to 999.");
        halls(1);
        players(1, 999);
        work(10, 1);
        concert(5, 0);
        due("the least wage", () -> book.book(0), 1);
        due("the greatest wage", () -> book.away(0, 0), 1);
        due("is paid", () -> book.cost(0), 999);
    }

    private void fourteenPlayers() {
        says(7, "Returns the number.", "Throws IllegalStateException if there are 14");
        alsoTerms("Players. At most 14 are numbered from 0,");
        for (int number = 0; number < 14; number++) {
            int due = number;
            due("player " + number, () -> book.addPlayer(due % 6, 63, 999), due);
        }
        due("a fifteenth", () -> book.addPlayer(0, 0, 1), STATE);
        numbered("services of player", 14, player -> book.services(player));
    }

    // ---- 8 ----

    private void leaveDays() {
        says(8, "Gives a player leave.", "from: the first day", "to: the last day,");
        alsoTerms("A player can be on leave from a day to a day,");
        halls(1);
        players(10, 20);
        for (int day : new int[] {19, 20, 25, 30, 31}) {
            concert(day);
        }
        due("leave", () -> book.leave(0, 20, 30), 1);
        due("the day ahead", () -> book.isFree(0, 0), true);
        due("the first day", () -> book.isFree(0, 1), false);
        due("between", () -> book.isFree(0, 2), false);
        due("the last day", () -> book.isFree(0, 3), false);
        due("the day behind", () -> book.isFree(0, 4), true);
        due("another player", () -> book.isFree(1, 2), true);
    }

    private void leaveRange() {
        says(8, "to: the last day, not ahead of it", "Throws IllegalArgumentException if a number is out of range",
                "player: the player", "Throws IndexOutOfBoundsException if there is no such player");
        due("the first of none", () -> book.leave(0, 0, 0), INDEX);
        players(10, 20);
        due("a day ahead of it", () -> book.leave(0, 6, 5), ARGUMENT);
        due("the same day", () -> book.leave(0, 5, 5), 1);
        due("far ahead of it", () -> book.leave(0, 399, 0), ARGUMENT);
        range("from", 0, 399, from -> book.leave(0, from, 399));
        range("to", 0, 399, to -> book.leave(0, 0, to));
        numbered("player", 2, player -> book.leave(player, 0, 0));
    }

    private void leaveAtTheEndsOfTheYear() {
        says(8, "from: the first day", "to: the last day,");
        halls(1);
        players(10, 20);
        for (int day : new int[] {0, 1, 398, 399}) {
            concert(day);
        }
        book.leave(0, 0, 0);
        book.leave(0, 399, 399);
        due("day 0", () -> book.isFree(0, 0), false);
        due("day 1", () -> book.isFree(0, 1), true);
        due("day 398", () -> book.isFree(0, 2), true);
        due("day 399", () -> book.isFree(0, 3), false);
        due("the whole year", () -> book.leave(1, 0, 399), 1);
        due("day 1 of it", () -> book.isFree(1, 1), false);
    }

    private void leaveWhenBooked() {
        says(8, "Throws UnsupportedOperationException if the player is booked on one of these days");
        halls(1);
        players(10, 20, 30);
        work(10, 2);
        bookedConcert(50, 0);
        due("on the last day", () -> book.leave(0, 40, 50), UNSUPPORTED);
        due("on the first day", () -> book.leave(0, 50, 60), UNSUPPORTED);
        due("on the only day", () -> book.leave(1, 50, 50), UNSUPPORTED);
        due("between", () -> book.leave(0, 0, 399), UNSUPPORTED);
        due("up to the day ahead", () -> book.leave(0, 0, 49), 1);
        due("from the day behind on", () -> book.leave(0, 51, 399), 2);
        due("a player who is not cast", () -> book.leave(2, 50, 60), 1);
        concert(45, 0);
        due("a service that is not booked", () -> book.leave(1, 45, 45), 1);
    }

    private void leaveWhenNotBookedAnyMore() {
        says(8, "if the player is booked on one of these days");
        halls(1);
        players(10, 10);
        work(10, 1);
        bookedConcert(0, 0);
        bookedConcert(399, 0);
        due("booked on day 0", () -> book.leave(0, 0, 0), UNSUPPORTED);
        due("booked on day 399", () -> book.leave(1, 399, 399), UNSUPPORTED);
        book.away(1, 1);
        due("away and so not cast", () -> book.leave(1, 399, 399), 1);
        due("cast instead", () -> book.leave(0, 399, 399), UNSUPPORTED);
        book.unbook(0);
        due("not booked any more", () -> book.leave(0, 0, 0), 1);
        due("it is cast again", () -> book.book(0), 10);
    }

    private void fiveLeaves() {
        says(8, "Returns how many times the player has leave.", "Throws IllegalStateException if there are 5");
        alsoTerms("at most 5 times,");
        players(10, 20);
        for (int time = 1; time <= 5; time++) {
            int due = time;
            due("time " + time, () -> book.leave(0, 10 * due, 10 * due + 5), due);
        }
        due("a sixth", () -> book.leave(0, 390, 390), STATE);
        due("one that is told already", () -> book.leave(0, 10, 15), STATE);
        due("another player", () -> book.leave(1, 390, 390), 1);
        due("the same days count twice", () -> book.leave(1, 390, 390), 2);
        halls(1);
        concert(390);
        concert(55);
        due("the sixth was not given", () -> book.isFree(0, 0), true);
        due("the fifth was", () -> book.isFree(0, 1), false);
    }

    // ---- 9 ----

    private void refuse() {
        says(9, "Tells whether a player refuses a work.", "Returns whether so before.");
        players(10, 20);
        work(10);
        work(10);
        due("not at first", () -> book.refuse(0, 1, false), false);
        due("not before", () -> book.refuse(0, 1, true), false);
        due("before", () -> book.refuse(0, 1, true), true);
        due("the other work not", () -> book.refuse(0, 0, false), false);
        due("the other player not", () -> book.refuse(1, 1, false), false);
        due("taken back", () -> book.refuse(0, 1, false), true);
        due("not any more", () -> book.refuse(0, 1, false), false);
    }

    private void refusedWorks() {
        says(9, "is: whether so from then on");
        alsoTerms("and can refuse works.");
        halls(1);
        players(10, 20);
        work(10, 1);
        work(10, 1);
        book.refuse(0, 1, true);
        bookedConcert(9, 0, 1);
        due("plays what is not refused", () -> book.castAt(0, 0, 0), 0);
        due("plays not what is refused", () -> book.castAt(0, 1, 0), 1);
        book.refuse(0, 1, false);
        due("a cast from before stays", () -> book.castAt(0, 1, 0), 1);
        book.unbook(0);
        book.book(0);
        due("plays it then", () -> book.castAt(0, 1, 0), 0);
        book.refuse(0, 1, true);
        due("a cast from before stays again", () -> book.castAt(0, 1, 0), 0);
        due("and is sound", () -> book.isSound(), true);
        book.refuse(1, 1, true);
        concert(30, 1);
        due("both refuse it", () -> book.book(1), UNSUPPORTED);
    }

    private void refuseOfNone() {
        says(9, "player: the player", "work: the work",
                "Throws IndexOutOfBoundsException if there is no such player or work");
        due("the first of none", () -> book.refuse(0, 0, true), INDEX);
        players(10);
        due("a player, but no work", () -> book.refuse(0, 0, true), INDEX);
        players(20);
        begunWithWorksAlone();
        work(10);
        work(10);
        numbered("player", 2, player -> book.refuse(player, 0, true));
        numbered("work", 2, work -> book.refuse(0, work, true));
        for (int number = 2; number < 12; number++) {
            work(10);
        }
        due("the last work of all", () -> book.refuse(1, 11, true), false);
        due("it is told", () -> book.refuse(1, 11, true), true);
        due("none behind it", () -> book.refuse(1, 12, true), INDEX);
    }

    private void begunWithWorksAlone() {
        Seasonbook other = new Seasonbook();
        other.addWork(10, true);
        due("a work, but no player", () -> other.refuse(0, 0, true), INDEX);
    }
}
