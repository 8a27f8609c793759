/** Each sentence of the promises 20 to 31 (numbers, ROLLS and bars), with a test of its own. */
final class KeepingSentences {
    private KeepingSentences() { }

    @Says("Promise 20")
    static final class Promise20 extends Checks {
        @Says("Gives a PERSON another number.")
        static void anotherNumberIsGiven() {
            Residentroll x = grown(2);
            due(10021, x.number(1));
            x.renumber(1);
            due(10036, x.number(1));
            due(10017, x.number(0));
            due(1, x.bearer(10021));
            due(1, x.bearer(10036));
            // one who is DEAD, UNBORN or a DOUBLE can get one as well
            x.join(0, 1);
            due(10040, x.renumber(1));
            x.death(0, 9000);
            due(10055, x.renumber(0));
            x.strike(0);
            due(10074, x.renumber(0));
        }

        @Says("`person`: a PERSON")
        static void anotherNumberIsOfAPerson() {
            Residentroll x = grown(24);
            int first = x.renumber(23);
            due(first, x.number(23));
            int second = x.renumber(0);
            due(second, x.number(0));
            due(23, x.bearer(first));
            due(0, x.bearer(second));
            refused(INDEX, () -> x.renumber(24));
            refused(INDEX, () -> x.renumber(-1));
        }

        @Says("Returns the number.")
        static void theNewNumberIsReturned() {
            Residentroll x = grown(1);
            // 1006, 1013 and 1020 have none
            int[] serials = {1002, 1003, 1004, 1005, 1007, 1008, 1009, 1010, 1011, 1012, 1014, 1015, 1016, 1017, 1018, 1019, 1021};
            for (int serial : serials) {
                int number = x.renumber(0);
                due(serial, number / 10);
                due(number, x.number(0));
                due(0, x.bearer(number));
            }
        }

        @Says("Throws `IndexOutOfBoundsException` if there is no such PERSON")
        static void anotherNumberOfNoSuchPersonIsRefused() {
            Residentroll x = grown(2);
            for (int none : new int[] {-1, -2, 2, 23, 24}) {
                refused(INDEX, () -> x.renumber(none));
            }
            for (int none : FAR_OFF) {
                refused(INDEX, () -> x.renumber(none));
            }
            refused(INDEX, () -> new Residentroll().renumber(0));
            due(10036, x.renumber(0));
        }

        @Says("Throws `IllegalStateException` if 60 were given")
        static void the61stNumberIsRefused() {
            Residentroll x = grown(2);
            for (int given = 2; given < 60; given++) {
                x.renumber(given % 2);
            }
            int last = x.number(1);
            refused(STATE, () -> x.renumber(0));
            refused(STATE, () -> x.renumber(1));
            refused(INDEX, () -> x.renumber(2));
            due(last, x.number(1));
            due(10661, last);
            due(10657, x.number(0));
        }
    }

    @Says("Promise 21")
    static final class Promise21 extends Checks {
        @Says("Returns the number of a PERSON, the last one that it got.")
        static void theLastNumberIsTold() {
            Residentroll x = grown(3);
            due(10017, x.number(0));
            due(10021, x.number(1));
            due(10036, x.number(2));
            x.renumber(0);
            x.renumber(1);
            x.renumber(0);
            due(10055, x.number(1));
            due(10074, x.number(0));
            due(10036, x.number(2));
            // whatever becomes of the PERSON
            x.join(0, 1);
            x.death(2, 9000);
            due(10055, x.number(1));
            due(10036, x.number(2));
            x.strike(0);
            due(10074, x.number(0));
        }

        @Says("`person`: a PERSON")
        static void eachPersonHasANumber() {
            Residentroll x = grown(24);
            for (int person = 0; person < 24; person++) {
                due(person, x.bearer(x.number(person)));
            }
            refused(INDEX, () -> x.number(24));
            refused(INDEX, () -> x.number(-1));
        }

        @Says("Returns the number.")
        static void aNumberHasFiveDigits() {
            Residentroll x = grown(1);
            due(10017, x.number(0));
            due(10017, x.number(0));
            for (int given = 1; given < 60; given++) {
                x.renumber(0);
            }
            due(10661, x.number(0));
        }

        @Says("Throws `IndexOutOfBoundsException` if there is no such PERSON")
        static void theNumberOfNoSuchPersonIsRefused() {
            Residentroll x = grown(2);
            for (int none : new int[] {-1, -2, 2, 23, 24}) {
                refused(INDEX, () -> x.number(none));
            }
            for (int none : FAR_OFF) {
                refused(INDEX, () -> x.number(none));
            }
            refused(INDEX, () -> new Residentroll().number(0));
        }
    }

    @Says("Promise 22")
    static final class Promise22 extends Checks {
        private static int checkOf(int serial) {
            return (2 * (serial / 1000) + 3 * (serial / 100 % 10) + 4 * (serial / 10 % 10) + 5 * (serial % 10)) % 11;
        }

        @Says("Returns the PERSON to whom a number leads.")
        static void aNumberLeadsToItsPerson() {
            Residentroll x = grown(2);
            due(0, x.bearer(10017));
            due(1, x.bearer(10021));
            x.renumber(0);
            due(0, x.bearer(10017));
            due(0, x.bearer(10036));
            // to the double itself, not to the PERSON of whom it is one
            x.join(0, 1);
            due(1, x.bearer(10021));
            x.death(0, 9000);
            due(0, x.bearer(10036));
        }

        @Says("`number`: 10000 to 99999")
        static void numbersHaveFiveDigits() {
            Residentroll x = grown(1);
            due(0, x.bearer(10017));
            due(NONE, x.bearer(99995));
            refused(ARGUMENT, () -> x.bearer(9999));
            refused(ARGUMENT, () -> x.bearer(100000));
            // would be of the serial 10001, whose last four digits have the check 5
            refused(ARGUMENT, () -> x.bearer(100015));
            refused(ARGUMENT, () -> x.bearer(0));
        }

        @Says("Returns the PERSON to whom it was given;")
        static void allSixtyNumbersLeadToTheirPerson() {
            Residentroll x = grown(7);
            for (int given = 7; given < 60; given++) {
                x.renumber(given % 7);
            }
            int given = 0;
            for (int serial = 1001; serial <= 1066; serial++) {
                if (checkOf(serial) != 10) {
                    due(given % 7, x.bearer(10 * serial + checkOf(serial)));
                    given++;
                }
            }
            due(60, given);
        }

        @Says("NONE if it was not given.")
        static void whatWasNotGivenLeadsToNobody() {
            Residentroll x = new Residentroll();
            due(NONE, x.bearer(10017));
            x.birth(0, NONE, 0, 0);
            due(0, x.bearer(10017));
            due(NONE, x.bearer(10021));
            due(NONE, x.bearer(10661));
            due(NONE, x.bearer(99995));
        }

        @Says("Throws `IllegalArgumentException` if number is out of range, or is none of a serial, which are 1001 to 9999")
        static void whatIsNoNumberIsRefused() {
            for (int off : FAR_OFF) {
                refused(ARGUMENT, () -> new Residentroll().bearer(off));
            }
            refused(ARGUMENT, () -> new Residentroll().bearer(-10017));
            Residentroll x = grown(1);
            for (int number = 10000; number <= 10010; number++) {
                int asks = number;
                refused(ARGUMENT, () -> x.bearer(asks));
            }
            int valid = 0;
            for (int serial = 1001; serial <= 9999; serial++) {
                Residentroll y = new Residentroll();
                int tens = 10 * serial;
                int check = checkOf(serial);
                valid += check == 10 ? 0 : 1;
                for (int last : new int[] {0, 9, check, (check + 1) % 11 % 10}) {
                    if (last == check) {
                        due(NONE, last == 10 ? NONE : y.bearer(tens + last));
                    } else {
                        refused(ARGUMENT, () -> y.bearer(tens + last));
                    }
                }
            }
            due(true, valid > 8100 && valid < 8300);
        }
    }

    @Says("Promise 23")
    static final class Promise23 extends Checks {
        @Says("Begins a ROLL.")
        static void aRollBeginsWithNobody() {
            Residentroll x = grown(2);
            x.roll(ALL, 0);
            due(2, x.owes(0));
            due(NONE, x.holds(0, 0));
            refused(INDEX, () -> x.message(0, 0));
            x.deliver(0);
            // another one begins anew, also of the same kind
            due(1, x.roll(ALL, 0));
            due(2, x.owes(1));
            due(0, x.owes(0));
        }

        @Says("`kind`: ALL to TOWN")
        static void aRollIsOfFourKinds() {
            Residentroll x = grown(1);
            for (int kind = ALL; kind <= TOWN; kind++) {
                due(kind, x.roll(kind, 0));
            }
            refused(ARGUMENT, () -> x.roll(-1, 0));
            refused(ARGUMENT, () -> x.roll(4, 0));
            due(4, x.roll(TOWN, 0));
        }

        @Says("`office`: 0 to 3;")
        static void aRollIsOfAnOffice() {
            Residentroll x = grown(16);
            for (int office = 0; office <= 3; office++) {
                due(office, x.roll(TOWN, office));
                due(4, x.deliver(office));
                due(4000 * office + 40 * office + 1, x.message(office, 0));
            }
            refused(INDEX, () -> x.roll(TOWN, -1));
            refused(INDEX, () -> x.roll(TOWN, 4));
        }

        @Says("it matters for TOWN alone")
        static void theOfficeMattersForTownAlone() {
            for (int office = 0; office <= 3; office++) {
                Residentroll x = grown(2);
                x.birth(TODAY - 10 * YEAR, NONE, 15, 0);
                int[] due = {3, 2, 1, office == 0 ? 2 : office == 3 ? 1 : 0};
                for (int kind = ALL; kind <= TOWN; kind++) {
                    x.roll(kind, office);
                    due(due[kind], x.owes(kind));
                }
            }
        }

        @Says("Returns its number.")
        static void rollsAreNumberedAsTheyBegin() {
            Residentroll x = new Residentroll();
            for (int roll = 0; roll < 5; roll++) {
                due(roll, x.roll(roll == 4 ? ALL : TOWN - roll, roll % 4));
                due(0, x.deliver(roll));
            }
        }

        @Says("Throws `IndexOutOfBoundsException` if there is no such OFFICE")
        static void aRollOfNoSuchOfficeIsRefused() {
            Residentroll x = grown(1);
            for (int kind = ALL; kind <= TOWN; kind++) {
                int asks = kind;
                for (int none : new int[] {-1, -2, 4, 5, 15}) {
                    refused(INDEX, () -> x.roll(asks, none));
                }
            }
            for (int none : FAR_OFF) {
                refused(INDEX, () -> x.roll(TOWN, none));
            }
            refused(INDEX, () -> x.roll(4, 4));
            refused(INDEX, () -> x.owes(0));
            due(0, x.roll(TOWN, 3));
        }

        @Says("Throws `IllegalArgumentException` if kind is out of range")
        static void aRollOfNoSuchKindIsRefused() {
            Residentroll x = grown(1);
            for (int off : FAR_OFF) {
                refused(ARGUMENT, () -> x.roll(off, 0));
            }
            refused(ARGUMENT, () -> x.roll(-1, 3));
            refused(ARGUMENT, () -> x.roll(4, 3));
            refused(INDEX, () -> x.owes(0));
            due(0, x.roll(TOWN, 0));
        }

        @Says("Throws `IllegalStateException` if there are 5")
        static void the6thRollIsRefused() {
            Residentroll x = fullOfRolls();
            for (int kind = ALL; kind <= TOWN; kind++) {
                int asks = kind;
                refused(STATE, () -> x.roll(asks, 0));
                refused(INDEX, () -> x.roll(asks, 4));
            }
            refused(ARGUMENT, () -> x.roll(4, 0));
            refused(ARGUMENT, () -> x.roll(-1, 0));
            refused(INDEX, () -> x.owes(5));
            due(3, x.owes(4));
        }
    }

    @Says("Promise 24")
    static final class Promise24 extends Checks {
        @Says("Delivers a ROLL.")
        static void aRollIsDelivered() {
            Residentroll x = grown(3);
            x.roll(ALL, 0);
            x.roll(ALL, 0);
            x.deliver(1);
            for (int person = 0; person < 3; person++) {
                due(1010 * person + 1, x.message(1, person));
                due(person, x.holds(1, person));
                due(NONE, x.holds(0, person));
            }
            due(0, x.owes(1));
            due(3, x.owes(0));
        }

        @Says("`roll`: its number")
        static void anyRollCanBeDelivered() {
            Residentroll x = fullOfRolls();
            for (int roll = 0; roll < 5; roll++) {
                due(x.owes(roll), x.deliver(roll));
                due(0, x.deliver(roll));
            }
            refused(INDEX, () -> x.deliver(5));
            refused(INDEX, () -> x.deliver(-1));
        }

        @Says("Returns how many messages are sent.")
        static void noneTo24MessagesAreSent() {
            Residentroll x = new Residentroll();
            x.roll(ALL, 0);
            due(0, x.deliver(0));
            for (int i = 0; i < 24; i++) {
                x.birth(TODAY - 17 * YEAR, NONE, 0, 0);
            }
            x.roll(VOTES, 0);
            x.roll(SCHOOL, 0);
            due(24, x.deliver(0));
            due(0, x.deliver(0));
            due(0, x.deliver(1));
            due(0, x.deliver(2));
            x.pass(YEAR);
            due(0, x.deliver(0));
            due(24, x.deliver(1));
            due(0, x.deliver(2));
            x.move(7, TODAY, 1);
            x.death(8, TODAY);
            due(2, x.deliver(0));
            due(2, x.deliver(1));
        }

        @Says("Throws `IndexOutOfBoundsException` if there is no such ROLL")
        static void noSuchRollIsDelivered() {
            Residentroll x = grown(2);
            x.roll(ALL, 0);
            for (int none : new int[] {-1, -2, 1, 4, 5, 6}) {
                refused(INDEX, () -> x.deliver(none));
            }
            for (int none : FAR_OFF) {
                refused(INDEX, () -> x.deliver(none));
            }
            refused(INDEX, () -> new Residentroll().deliver(0));
            due(2, x.owes(0));
        }
    }

    @Says("Promise 25")
    static final class Promise25 extends Checks {
        @Says("Returns how many messages a ROLL would be sent now.")
        static void whatIsOwedIsWhatWouldBeSent() {
            Residentroll x = grown(4);
            x.roll(TOWN, 0);
            due(4, x.owes(0));
            due(4, x.deliver(0));
            x.move(0, 9000, 5);
            x.move(1, 9000, 3);
            due(2, x.owes(0));
            x.birth(9000, NONE, 0, 0);
            due(3, x.owes(0));
            x.strike(5);
            due(2, x.owes(0));
            due(2, x.deliver(0));
            due(0, x.owes(0));
            // now: with the days that pass
            x.birth(TODAY - 18 * YEAR + 1, NONE, 9, 0);
            x.roll(VOTES, 0);
            due(4, x.owes(1));
            x.pass(1);
            due(5, x.owes(1));
        }

        @Says("`roll`: its number")
        static void anyRollCanBeOwed() {
            Residentroll x = fullOfRolls();
            // TOWN of the office 3 has nobody, and SCHOOL neither
            int[] due = {3, 3, 0, 0, 3};
            for (int roll = 0; roll < 5; roll++) {
                due(due[roll], x.owes(roll));
            }
            refused(INDEX, () -> x.owes(5));
            refused(INDEX, () -> x.owes(-1));
        }

        @Says("Returns how many.")
        static void askingSendsNothing() {
            Residentroll x = grown(24);
            x.roll(ALL, 0);
            due(24, x.owes(0));
            due(24, x.owes(0));
            refused(INDEX, () -> x.message(0, 0));
            due(NONE, x.holds(0, 0));
            due(24, x.deliver(0));
            due(0, x.owes(0));
        }

        @Says("Throws `IndexOutOfBoundsException` if there is no such ROLL")
        static void noSuchRollIsOwed() {
            Residentroll x = grown(2);
            x.roll(ALL, 0);
            for (int none : new int[] {-1, -2, 1, 4, 5, 6}) {
                refused(INDEX, () -> x.owes(none));
            }
            for (int none : FAR_OFF) {
                refused(INDEX, () -> x.owes(none));
            }
            refused(INDEX, () -> new Residentroll().owes(0));
        }
    }

    @Says("Promise 26")
    static final class Promise26 extends Checks {
        @Says("Returns a message of a ROLL.")
        static void messagesAreOfTheirRoll() {
            Residentroll x = grown(8);
            x.roll(TOWN, 1);
            x.roll(TOWN, 0);
            x.deliver(1);
            x.deliver(0);
            due(4041, x.message(0, 0));
            due(1, x.message(1, 0));
            x.move(0, 9000, 7);
            x.deliver(0);
            due(71, x.message(0, 4));
            refused(INDEX, () -> x.message(1, 4));
            x.deliver(1);
            due(2, x.message(1, 4));
            // what was sent stays
            due(1, x.message(1, 0));
        }

        @Says("`roll`: its number")
        static void messagesOfAnyRoll() {
            Residentroll x = grown(1);
            for (int roll = 0; roll < 5; roll++) {
                x.roll(ALL, 0);
                x.deliver(roll);
                due(1, x.message(roll, 0));
            }
            refused(INDEX, () -> x.message(5, 0));
            refused(INDEX, () -> x.message(-1, 0));
        }

        @Says("`place`: 0 for the first one that it ever got")
        static void placesGoFrom0ToTheLastOne() {
            Residentroll x = grown(24);
            x.roll(ALL, 0);
            x.deliver(0);
            int got = 24;
            for (int turn = 0; turn < 100; turn++) {
                x.move(turn % 2, TODAY, 14 + turn / 2 % 2);
                got += x.deliver(0);
            }
            due(124, got);
            int all = got;
            refused(INDEX, () -> x.message(0, -1));
            refused(INDEX, () -> x.message(0, all));
            for (int place = 0; place < 24; place++) {
                due(1000 * place + 10 * (place % 16) + 1, x.message(0, place));
            }
            for (int turn = 0; turn < 100; turn++) {
                due(1000 * (turn % 2) + 10 * (14 + turn / 2 % 2) + 3, x.message(0, 24 + turn));
            }
        }

        @Says("Returns 1000 times the PERSON, 10 times the DWELLING (0 with GOES), and COMES to MOVED, together.")
        static void aMessageTellsPersonDwellingAndKind() {
            Residentroll x = grown(24);
            x.roll(ALL, 0);
            x.deliver(0);
            due(1, x.message(0, 0));
            due(15151, x.message(0, 15));
            due(23071, x.message(0, 23));
            x.move(0, 9000, 15);
            x.move(23, 9000, 0);
            x.deliver(0);
            due(153, x.message(0, 24));
            due(23003, x.message(0, 25));
            x.death(0, 9000);
            x.death(15, 9000);
            x.deliver(0);
            due(2, x.message(0, 26));
            due(15002, x.message(0, 27));
        }

        @Says("Throws `IndexOutOfBoundsException` if there is no such ROLL or place")
        static void noSuchMessageIsTold() {
            Residentroll x = grown(2);
            x.roll(ALL, 0);
            refused(INDEX, () -> x.message(0, 0));
            x.deliver(0);
            for (int none : new int[] {-1, -2, 2, 3, 23, 24}) {
                refused(INDEX, () -> x.message(0, none));
                refused(INDEX, () -> x.message(none, 0));
                refused(INDEX, () -> x.message(none, none));
            }
            for (int none : FAR_OFF) {
                refused(INDEX, () -> x.message(0, none));
                refused(INDEX, () -> x.message(none, 0));
            }
            due(1011, x.message(0, 1));
            refused(INDEX, () -> x.message(1, 0));
        }
    }

    @Says("Promise 27")
    static final class Promise27 extends Checks {
        @Says("Returns the DWELLING that a ROLL has for a PERSON.")
        static void aRollHasWhatItWasTold() {
            Residentroll x = grown(2);
            x.roll(ALL, 0);
            x.roll(ALL, 0);
            x.deliver(0);
            x.move(1, 9000, 15);
            x.deliver(1);
            due(1, x.holds(0, 1));
            due(15, x.holds(1, 1));
            due(0, x.holds(0, 0));
        }

        @Says("`roll`: its number")
        static void anyRollHolds() {
            Residentroll x = grown(1);
            for (int roll = 0; roll < 5; roll++) {
                int next = roll;
                refused(INDEX, () -> x.holds(next, 0));
                x.roll(ALL, 0);
                x.deliver(roll);
                due(0, x.holds(roll, 0));
            }
            refused(INDEX, () -> x.holds(5, 0));
            refused(INDEX, () -> x.holds(-1, 0));
        }

        @Says("`person`: a PERSON")
        static void anyPersonIsHeld() {
            Residentroll x = grown(24);
            x.roll(ALL, 0);
            x.deliver(0);
            for (int person = 0; person < 24; person++) {
                due(person % 16, x.holds(0, person));
            }
            refused(INDEX, () -> x.holds(0, 24));
            refused(INDEX, () -> x.holds(0, -1));
        }

        @Says("Returns the DWELLING that was told last;")
        static void theDwellingToldLastIsHeld() {
            Residentroll x = grown(1);
            x.roll(ALL, 0);
            x.deliver(0);
            x.move(0, 9000, 5);
            due(0, x.holds(0, 0));
            x.move(0, 9001, 6);
            x.deliver(0);
            due(6, x.holds(0, 0));
            x.strike(2);
            due(6, x.holds(0, 0));
            x.deliver(0);
            due(5, x.holds(0, 0));
        }

        @Says("NONE if it does not have the PERSON.")
        static void whoIsNotHadIsHeldNowhere() {
            Residentroll x = grown(2);
            x.roll(ALL, 0);
            due(NONE, x.holds(0, 0));
            x.deliver(0);
            x.death(0, 9000);
            due(0, x.holds(0, 0));
            x.deliver(0);
            due(NONE, x.holds(0, 0));
            x.strike(2);
            due(NONE, x.holds(0, 0));
            x.deliver(0);
            due(0, x.holds(0, 0));
            x.birth(9000, NONE, 9, 0);
            due(NONE, x.holds(0, 2));
            x.join(0, 1);
            x.deliver(0);
            due(NONE, x.holds(0, 1));
            due(9, x.holds(0, 2));
        }

        @Says("Throws `IndexOutOfBoundsException` if there is no such ROLL or PERSON")
        static void noSuchRollOrPersonIsHeld() {
            Residentroll x = grown(2);
            x.roll(ALL, 0);
            for (int none : new int[] {-1, -2, 2, 5, 24}) {
                refused(INDEX, () -> x.holds(none, 0));
                refused(INDEX, () -> x.holds(0, none));
                refused(INDEX, () -> x.holds(none, none));
            }
            for (int none : FAR_OFF) {
                refused(INDEX, () -> x.holds(none, 0));
                refused(INDEX, () -> x.holds(0, none));
            }
            refused(INDEX, () -> x.holds(1, 0));
        }
    }

    @Says("Promise 28")
    static final class Promise28 extends Checks {
        @Says("Returns the same, found by all messages from the first one on.")
        static void allMessagesLeadToTheSame() {
            Residentroll x = grown(5);
            x.roll(TOWN, 0);
            for (int turn = 0; turn < 20; turn++) {
                x.move(turn % 5, TODAY, turn * 3 % 8);
                x.deliver(0);
                for (int person = 0; person < 5; person++) {
                    due(x.holds(0, person), x.holdsAnew(0, person));
                }
            }
            x.move(2, TODAY, 1);
            x.move(3, TODAY, 4);
            x.deliver(0);
            due(1, x.holdsAnew(0, 2));
            due(NONE, x.holdsAnew(0, 3));
        }

        @Says("`roll`: its number")
        static void anyRollHoldsAnew() {
            Residentroll x = grown(1);
            for (int roll = 0; roll < 5; roll++) {
                int next = roll;
                refused(INDEX, () -> x.holdsAnew(next, 0));
                x.roll(ALL, 0);
                x.deliver(roll);
                due(0, x.holdsAnew(roll, 0));
            }
            refused(INDEX, () -> x.holdsAnew(5, 0));
            refused(INDEX, () -> x.holdsAnew(-1, 0));
        }

        @Says("`person`: a PERSON")
        static void anyPersonIsHeldAnew() {
            Residentroll x = grown(24);
            x.roll(ALL, 0);
            x.deliver(0);
            for (int person = 0; person < 24; person++) {
                due(person % 16, x.holdsAnew(0, person));
            }
            refused(INDEX, () -> x.holdsAnew(0, 24));
            refused(INDEX, () -> x.holdsAnew(0, -1));
        }

        @Says("Returns the DWELLING that was told last;")
        static void theDwellingToldLastIsFoundAnew() {
            Residentroll x = grown(1);
            x.roll(ALL, 0);
            x.deliver(0);
            x.move(0, 9000, 15);
            due(0, x.holdsAnew(0, 0));
            x.deliver(0);
            due(15, x.holdsAnew(0, 0));
            x.strike(1);
            due(15, x.holdsAnew(0, 0));
            x.deliver(0);
            due(0, x.holdsAnew(0, 0));
        }

        @Says("NONE if it does not have the PERSON.")
        static void whoIsNotHadIsFoundNowhere() {
            Residentroll x = grown(2);
            x.roll(ALL, 0);
            due(NONE, x.holdsAnew(0, 0));
            x.deliver(0);
            x.death(0, 9000);
            due(0, x.holdsAnew(0, 0));
            x.deliver(0);
            due(NONE, x.holdsAnew(0, 0));
            x.strike(2);
            x.deliver(0);
            due(0, x.holdsAnew(0, 0));
            x.birth(9000, NONE, 9, 0);
            due(NONE, x.holdsAnew(0, 2));
            x.join(0, 1);
            x.deliver(0);
            due(NONE, x.holdsAnew(0, 1));
            due(9, x.holdsAnew(0, 2));
        }

        @Says("Throws `IndexOutOfBoundsException` if there is no such ROLL or PERSON")
        static void noSuchRollOrPersonIsHeldAnew() {
            Residentroll x = grown(2);
            x.roll(ALL, 0);
            for (int none : new int[] {-1, -2, 2, 5, 24}) {
                refused(INDEX, () -> x.holdsAnew(none, 0));
                refused(INDEX, () -> x.holdsAnew(0, none));
                refused(INDEX, () -> x.holdsAnew(none, none));
            }
            for (int none : FAR_OFF) {
                refused(INDEX, () -> x.holdsAnew(none, 0));
                refused(INDEX, () -> x.holdsAnew(0, none));
            }
            refused(INDEX, () -> x.holdsAnew(1, 0));
        }
    }

    @Says("Promise 29")
    static final class Promise29 extends Checks {
        @Says("Bars a PERSON from search, or ends that;")
        static void aBarHidesUntilItEnds() {
            Residentroll x = grown(2);
            x.bar(1, true);
            due(HIDDEN, x.look(1, 1));
            due(0, x.look(1, 0));
            x.bar(1, false);
            due(1, x.look(1, 1));
            x.bar(1, true);
            due(HIDDEN, x.look(1, 1));
            x.pass(5000);
            due(HIDDEN, x.look(1, 1));
        }

        @Says("it goes for this number of a PERSON alone, whether that is a DOUBLE or not.")
        static void aBarIsOfOneNumberAlone() {
            Residentroll x = grown(3);
            x.bar(1, true);
            x.join(0, 1);
            due(0, x.look(1, 0));
            due(HIDDEN, x.look(1, 1));
            due(false, x.bar(0, false));
            due(true, x.bar(1, true));
            // a bar of the PERSON is none of its double
            x.join(0, 2);
            x.bar(0, true);
            due(HIDDEN, x.look(1, 0));
            due(NONE, x.look(1, 2));
            due(false, x.bar(2, true));
            due(HIDDEN, x.look(1, 2));
            x.bar(1, false);
            due(NONE, x.look(1, 1));
            due(HIDDEN, x.look(1, 0));
        }

        @Says("`person`: a PERSON")
        static void aBarIsOfAPerson() {
            Residentroll x = grown(24);
            due(false, x.bar(0, true));
            due(false, x.bar(23, true));
            due(HIDDEN, x.look(3, 23));
            due(6, x.look(3, 22));
            refused(INDEX, () -> x.bar(24, true) ? 1 : 0);
            refused(INDEX, () -> x.bar(-1, true) ? 1 : 0);
        }

        @Says("`is`: whether it is barred from now on")
        static void barringTwiceIsBarring() {
            Residentroll x = grown(1);
            x.bar(0, true);
            x.bar(0, true);
            due(HIDDEN, x.look(2, 0));
            x.bar(0, false);
            due(0, x.look(2, 0));
            x.bar(0, false);
            due(0, x.look(2, 0));
        }

        @Says("Returns whether it was.")
        static void whetherItWasBarredIsReturned() {
            Residentroll x = grown(2);
            due(false, x.bar(0, false));
            due(false, x.bar(0, true));
            due(true, x.bar(0, true));
            due(true, x.bar(0, false));
            due(false, x.bar(0, false));
            due(false, x.bar(1, true));
            due(false, x.bar(0, true));
            due(true, x.bar(1, false));
        }

        @Says("Throws `IndexOutOfBoundsException` if there is no such PERSON")
        static void aBarOfNoSuchPersonIsRefused() {
            Residentroll x = grown(2);
            for (int none : new int[] {-1, -2, 2, 23, 24}) {
                refused(INDEX, () -> x.bar(none, true) ? 1 : 0);
                refused(INDEX, () -> x.bar(none, false) ? 1 : 0);
            }
            for (int none : FAR_OFF) {
                refused(INDEX, () -> x.bar(none, true) ? 1 : 0);
            }
            // one who is born then is not barred
            x.birth(0, NONE, 0, 0);
            due(false, x.bar(2, false));
            refused(INDEX, () -> new Residentroll().bar(0, true) ? 1 : 0);
        }
    }

    @Says("Promise 30")
    static final class Promise30 extends Checks {
        @Says("Looks where a PERSON is, on the day of now, as known now;")
        static void lookingTellsWhereOneIsNow() {
            Residentroll x = grown(2);
            due(1, x.look(0, 1));
            x.move(1, 9000, 9);
            due(9, x.look(1, 1));
            x.move(1, 8000, 8);
            due(9, x.look(2, 1));
            x.strike(2);
            due(8, x.look(3, 1));
            x.pass(1);
            x.move(1, 10001, 15);
            due(15, x.look(0, 1));
            due(0, x.look(0, 0));
        }

        @Says("it is counted for the PERSON, whatever comes of it.")
        static void eachLookIsCounted() {
            Residentroll x = grown(3);
            x.look(1, 0);
            x.bar(0, true);
            due(HIDDEN, x.look(1, 0));
            due(0, x.look(0, 0));
            x.death(0, 9000);
            x.bar(0, false);
            due(NONE, x.look(1, 0));
            due(4, x.looks(0));
            x.join(1, 2);
            due(NONE, x.look(1, 2));
            due(1, x.looks(2));
            due(0, x.looks(1));
            // but for a look that is refused
            refused(ARGUMENT, () -> x.look(4, 0));
            refused(ARGUMENT, () -> x.look(-1, 0));
            due(4, x.looks(0));
        }

        @Says("`purpose`: 0 to 3")
        static void thereAreFourPurposes() {
            Residentroll x = grown(2);
            for (int purpose = 0; purpose <= 3; purpose++) {
                due(1, x.look(purpose, 1));
            }
            refused(ARGUMENT, () -> x.look(-1, 1));
            refused(ARGUMENT, () -> x.look(4, 1));
        }

        @Says("`person`: a PERSON")
        static void onePersonIsLookedFor() {
            Residentroll x = grown(24);
            due(0, x.look(0, 0));
            due(7, x.look(3, 23));
            refused(INDEX, () -> x.look(0, 24));
            refused(INDEX, () -> x.look(0, -1));
        }

        @Says("Returns HIDDEN if the PERSON is barred and the purpose is not 0;")
        static void whoIsBarredIsHiddenButForPurpose0() {
            Residentroll x = grown(2);
            x.bar(1, true);
            due(1, x.look(0, 1));
            for (int purpose = 1; purpose <= 3; purpose++) {
                due(HIDDEN, x.look(purpose, 1));
                due(0, x.look(purpose, 0));
            }
            // also one who is in no DWELLING
            x.death(1, 9000);
            due(HIDDEN, x.look(1, 1));
            due(NONE, x.look(0, 1));
        }

        @Says("otherwise the DWELLING, NONE without.")
        static void whoIsInNoDwellingIsFoundNowhere() {
            Residentroll x = grown(4);
            x.death(0, 9000);
            x.strike(1);
            x.join(2, 3);
            for (int purpose = 0; purpose <= 3; purpose++) {
                due(NONE, x.look(purpose, 0));
                due(NONE, x.look(purpose, 1));
                due(2, x.look(purpose, 2));
                due(NONE, x.look(purpose, 3));
            }
        }

        @Says("Throws `IndexOutOfBoundsException` if there is no such PERSON")
        static void lookingForNoSuchPersonIsRefused() {
            Residentroll x = grown(2);
            for (int none : new int[] {-1, -2, 2, 23, 24}) {
                refused(INDEX, () -> x.look(0, none));
                refused(INDEX, () -> x.look(4, none));
            }
            for (int none : FAR_OFF) {
                refused(INDEX, () -> x.look(0, none));
            }
            x.birth(0, NONE, 0, 0);
            due(0, x.looks(2));
            refused(INDEX, () -> new Residentroll().look(0, 0));
        }

        @Says("Throws `IllegalArgumentException` if purpose is out of range")
        static void lookingForNoSuchPurposeIsRefused() {
            Residentroll x = grown(2);
            x.bar(1, true);
            for (int off : FAR_OFF) {
                refused(ARGUMENT, () -> x.look(off, 0));
                refused(ARGUMENT, () -> x.look(off, 1));
            }
            for (int off : new int[] {-1, -2, 4, 5}) {
                refused(ARGUMENT, () -> x.look(off, 0));
                refused(ARGUMENT, () -> x.look(off, 1));
            }
            due(0, x.looks(0));
            due(0, x.looks(1));
        }
    }

    @Says("Promise 31")
    static final class Promise31 extends Checks {
        @Says("Returns how often a PERSON was looked for.")
        static void looksAreCountedByPersons() {
            Residentroll x = grown(2);
            due(0, x.looks(0));
            x.look(0, 1);
            x.look(3, 1);
            due(0, x.looks(0));
            due(2, x.looks(1));
            // asking is no look, nor is what tells the DWELLING otherwise
            x.now(1, IS_IN);
            x.asOf(1, IS_IN, TODAY, TODAY);
            due(2, x.looks(1));
            // what is looked for of a double is its own
            x.join(0, 1);
            x.look(0, 1);
            due(3, x.looks(1));
            due(0, x.looks(0));
        }

        @Says("`person`: a PERSON")
        static void looksAreOfAPerson() {
            Residentroll x = grown(24);
            x.look(0, 23);
            due(1, x.looks(23));
            due(0, x.looks(0));
            refused(INDEX, () -> x.looks(24));
            refused(INDEX, () -> x.looks(-1));
        }

        @Says("Returns how often.")
        static void manyLooksAreCounted() {
            Residentroll x = grown(1);
            for (int i = 1; i <= 509; i++) {
                x.look(i % 4, 0);
            }
            due(509, x.looks(0));
            Residentroll y = grown(1);
            for (int i = 0; i < 255; i++) {
                due(i, y.looks(0));
                y.look(0, 0);
            }
        }

        @Says("Throws `IndexOutOfBoundsException` if there is no such PERSON")
        static void looksForNoSuchPersonAreRefused() {
            Residentroll x = grown(2);
            for (int none : new int[] {-1, -2, 2, 23, 24}) {
                refused(INDEX, () -> x.looks(none));
            }
            for (int none : FAR_OFF) {
                refused(INDEX, () -> x.looks(none));
            }
            refused(INDEX, () -> new Residentroll().looks(0));
        }
    }
}
