/** Each sentence of the promises 10 to 19 (what is asked of ACTS and days), with a test of its own. */
final class AskingSentences {
    private AskingSentences() { }

    @Says("Promise 10")
    static final class Promise10 extends Checks {
        @Says("Returns the day of now.")
        static void theDayOfNowIsTold() {
            Residentroll x = new Residentroll();
            due(10000, x.day());
            due(10000, x.day());
            x.pass(1);
            due(10001, x.day());
            x.pass(5000);
            due(15001, x.day());
            // neither an ACT nor a refused call lets days pass
            x.birth(500, NONE, 0, 0);
            refused(ARGUMENT, () -> x.pass(5001));
            due(15001, x.day());
            due(30000, onTheLastDay().day());
        }
    }

    @Says("Promise 11")
    static final class Promise11 extends Checks {
        @Says("Tells of an ACT.")
        static void anActIsToldOfAsItWasTold() {
            Residentroll x = grown(2);
            x.pass(1);
            x.move(1, 9000, 5);
            x.pass(1);
            x.strike(2);
            // striking it leaves all but the last answer as it was
            int[] due = {Residentroll.MOVE, 10001, 9000, 1, 3};
            for (int what = 0; what < 5; what++) {
                due(due[what], x.actOf(2, what));
            }
        }

        @Says("`act`: its number")
        static void actsGoFrom0ToTheLastOne() {
            Residentroll x = grown(1);
            for (int told = 1; told < 150; told++) {
                int next = told;
                refused(INDEX, () -> x.actOf(next, 0));
                due(told, x.naming(0, 10000 - told, 0));
                due(10000 - told, x.actOf(told, 2));
            }
            refused(INDEX, () -> x.actOf(150, 0));
            due(Residentroll.BIRTH, x.actOf(0, 0));
        }

        @Says("`what`: 0 its kind, 1 the day on which it was told, 2 the day on which it was so,")
        static void theKindAndTheDaysAreTold() {
            Residentroll x = grown(1);
            x.pass(100);
            x.birth(10100, NONE, 0, 0);
            x.death(0, 0);
            int[][] rows = {{Residentroll.BIRTH, 10000, 0}, {Residentroll.BIRTH, 10100, 10100}, {Residentroll.DEATH, 10100, 0}};
            for (int act = 0; act < 3; act++) {
                for (int what = 0; what < 3; what++) {
                    due(rows[act][what], x.actOf(act, what));
                }
            }
        }

        @Says("NONE of JOININGS and STRIKINGS, 3 its PERSON, as it was told")
        static void joiningsAndStrikingsWereSoOnNoDay() {
            Residentroll x = grown(2);
            x.join(0, 1);
            x.strike(0);
            due(NONE, x.actOf(2, 2));
            due(NONE, x.actOf(3, 2));
            // as it was told: of the double, though that is another PERSON
            x.move(1, 9000, 5);
            due(1, x.actOf(4, 3));
            x.death(1, 9000);
            due(1, x.actOf(5, 3));
            due(1, x.actOf(1, 3));
        }

        @Says("(of BOND, PARTING and ADOPTION the one told first, of a JOINING the one with the lower number),")
        static void ofTwoPersonsTheFirstIsTold() {
            Residentroll x = grown(4);
            x.tie(BOND, 2, 1, 9000);
            x.tie(PARTING, 1, 2, 9000);
            x.tie(ADOPTION, 3, 0, 9000);
            x.tie(ADOPTION, 0, 3, 9000);
            x.join(1, 3);
            int[] due = {2, 1, 3, 0, 1};
            for (int i = 0; i < 5; i++) {
                due(due[i], x.actOf(4 + i, 3));
            }
        }

        @Says("NONE of STRIKINGS,")
        static void aStrikingHasNoPerson() {
            Residentroll x = grown(2);
            x.strike(1);
            due(NONE, x.actOf(2, 3));
            x.strike(0);
            due(NONE, x.actOf(3, 3));
            due(1, x.actOf(1, 3));
        }

        @Says("4 the ACT by which it was struck, NONE without")
        static void theStrikingIsTold() {
            Residentroll x = grown(3);
            due(NONE, x.actOf(0, 4));
            x.strike(2);
            x.pass(1);
            x.strike(0);
            due(4, x.actOf(0, 4));
            due(NONE, x.actOf(1, 4));
            due(3, x.actOf(2, 4));
            due(NONE, x.actOf(3, 4));
            due(NONE, x.actOf(4, 4));
        }

        @Says("Returns that.")
        static void bothEdgesOfWhatAreTold() {
            Residentroll x = grown(1);
            due(Residentroll.BIRTH, x.actOf(0, 0));
            due(NONE, x.actOf(0, 4));
            refused(ARGUMENT, () -> x.actOf(0, -1));
            refused(ARGUMENT, () -> x.actOf(0, 5));
        }

        @Says("Throws `IndexOutOfBoundsException` if there is no such ACT")
        static void noSuchActIsTold() {
            Residentroll x = grown(2);
            for (int none : new int[] {-1, -2, 2, 149, 150, 151}) {
                refused(INDEX, () -> x.actOf(none, 0));
                refused(INDEX, () -> x.actOf(none, 5));
            }
            for (int none : FAR_OFF) {
                refused(INDEX, () -> x.actOf(none, 4));
            }
            refused(INDEX, () -> new Residentroll().actOf(0, 0));
        }

        @Says("Throws `IllegalArgumentException` if what is out of range")
        static void nothingElseIsToldOfAnAct() {
            Residentroll x = grown(2);
            x.join(0, 1);
            x.strike(2);
            for (int act = 0; act < 4; act++) {
                int asks = act;
                refused(ARGUMENT, () -> x.actOf(asks, -1));
                refused(ARGUMENT, () -> x.actOf(asks, 5));
            }
            for (int off : FAR_OFF) {
                refused(ARGUMENT, () -> x.actOf(0, off));
            }
        }
    }

    @Says("Promise 12")
    static final class Promise12 extends Checks {
        @Says("Tells of a PERSON on a day, as known on a day.")
        static void aPersonIsToldOfByTwoDays() {
            Residentroll x = grown(2);
            x.pass(10);
            x.move(1, 9000, 5);
            due(1, x.asOf(1, IS_IN, 9000, 10009));
            due(5, x.asOf(1, IS_IN, 9000, 10010));
            due(1, x.asOf(1, IS_IN, 8999, 10010));
            // asking for one day leaves the next answer as it is
            due(UNBORN, x.asOf(1, IS, 99, 10010));
            due(5, x.asOf(1, IS_IN, 10010, 10010));
            due(UNBORN, x.asOf(1, IS, 10010, 9999));
            due(5, x.asOf(1, IS_IN, 10010, 10010));
        }

        @Says("`person`: a PERSON")
        static void asOfIsOfAPerson() {
            Residentroll x = grown(24);
            for (int person = 0; person < 24; person++) {
                due(person, x.asOf(person, NAME, TODAY, TODAY));
            }
            refused(INDEX, () -> x.asOf(24, NAME, TODAY, TODAY));
            refused(INDEX, () -> x.asOf(-1, NAME, TODAY, TODAY));
        }

        @Says("`what`: 0 UNBORN to DOUBLE, 1 the DWELLING, 2 the name, 3 the partner, 4 the mother,")
        static void allThatAPersonHasIsTold() {
            Residentroll x = grown(5);
            x.tie(BOND, 4, 1, 9000);
            x.tie(ADOPTION, 4, 2, 9000);
            x.death(3, 9000);
            int[][] rows = {
                {LIVING, 0, 0, NONE, NONE}, {LIVING, 1, 1, 4, NONE}, {LIVING, 2, 2, NONE, NONE}, {DEAD, NONE, 3, NONE, NONE}, {LIVING, 4, 4, 1, 2},
            };
            for (int person = 0; person < 5; person++) {
                for (int what = IS; what <= MOTHER; what++) {
                    due(rows[person][what], x.asOf(person, what, TODAY, TODAY));
                }
            }
        }

        @Says("5 the age, NONE of who is not LIVING,")
        static void whoIsNotLivingHasNoAge() {
            Residentroll x = grown(4);
            x.death(1, 5000);
            x.join(2, 3);
            due(27, x.asOf(0, AGE, TODAY, TODAY));
            due(NONE, x.asOf(1, AGE, TODAY, TODAY));
            due(13, x.asOf(1, AGE, 4999, TODAY));
            due(NONE, x.asOf(1, AGE, 5000, TODAY));
            due(26, x.asOf(2, AGE, TODAY, TODAY));
            due(NONE, x.asOf(3, AGE, TODAY, TODAY));
            due(NONE, x.asOf(2, AGE, 199, TODAY));
            due(0, x.asOf(2, AGE, 200, TODAY));
            due(NONE, x.asOf(0, AGE, TODAY, 9999));
        }

        @Says("6 the lowest PERSON of its household, NONE likewise;")
        static void whoIsNotLivingHasNoHousehold() {
            Residentroll x = new Residentroll();
            for (int i = 0; i < 5; i++) {
                x.birth(100, NONE, 7, i);
            }
            x.tie(BOND, 1, 4, 5000);
            x.death(2, 5000);
            x.join(0, 3);
            int[] due = {0, 1, NONE, NONE, 1};
            for (int person = 0; person < 5; person++) {
                due(due[person], x.asOf(person, HOUSEHOLD, TODAY, TODAY));
                due(NONE, x.asOf(person, HOUSEHOLD, 99, TODAY));
            }
            due(4, x.asOf(4, HOUSEHOLD, 4999, TODAY));
            due(2, x.asOf(2, HOUSEHOLD, 4999, TODAY));
        }

        @Says("1 to 4 NONE without")
        static void whatIsNotHadIsNone() {
            Residentroll x = grown(3);
            x.death(1, 5000);
            x.strike(2);
            for (int what = IS_IN; what <= MOTHER; what++) {
                due(NONE, x.asOf(2, what, TODAY, TODAY));
                due(NONE, x.asOf(0, what, TODAY, 9999));
            }
            due(NONE, x.asOf(1, IS_IN, TODAY, TODAY));
            due(1, x.asOf(1, NAME, TODAY, TODAY));
            due(NONE, x.asOf(1, PARTNER, TODAY, TODAY));
            due(NONE, x.asOf(0, PARTNER, TODAY, TODAY));
            due(NONE, x.asOf(0, MOTHER, TODAY, TODAY));
            due(0, x.asOf(0, IS_IN, TODAY, TODAY));
            due(0, x.asOf(0, NAME, TODAY, TODAY));
        }

        @Says("`s`: the day S")
        static void sGoesFrom0ToNow() {
            Residentroll x = grown(1);
            x.pass(10);
            due(LIVING, x.asOf(0, IS, 0, 10010));
            due(LIVING, x.asOf(0, IS, 10010, 10000));
            due(0, x.asOf(0, AGE, 0, 10010));
            refused(ARGUMENT, () -> x.asOf(0, IS, -1, 10010));
            refused(ARGUMENT, () -> x.asOf(0, IS, 10011, 10010));
        }

        @Says("`k`: the day K")
        static void kGoesFrom0ToNow() {
            Residentroll x = grown(1);
            x.pass(10);
            due(UNBORN, x.asOf(0, IS, 10010, 0));
            due(UNBORN, x.asOf(0, IS, 10010, 9999));
            due(LIVING, x.asOf(0, IS, 0, 10000));
            due(LIVING, x.asOf(0, IS, 0, 10010));
            refused(ARGUMENT, () -> x.asOf(0, IS, 0, -1));
            refused(ARGUMENT, () -> x.asOf(0, IS, 0, 10011));
        }

        @Says("Returns that.")
        static void allOfSevenAnswersAreGiven() {
            Residentroll x = grown(1);
            int[] due = {LIVING, 0, 0, NONE, NONE, 27, 0};
            for (int what = 0; what <= 6; what++) {
                due(due[what], x.asOf(0, what, TODAY, TODAY));
            }
        }

        @Says("Throws `IndexOutOfBoundsException` if there is no such PERSON")
        static void asOfNoSuchPersonIsRefused() {
            Residentroll x = grown(2);
            for (int none : new int[] {-1, -2, 2, 23, 24}) {
                refused(INDEX, () -> x.asOf(none, IS, 0, 0));
                refused(INDEX, () -> x.asOf(none, 7, 10001, -1));
            }
            for (int none : FAR_OFF) {
                refused(INDEX, () -> x.asOf(none, IS, 0, 0));
            }
            refused(INDEX, () -> new Residentroll().asOf(0, IS, 0, 0));
        }

        @Says("Throws `IllegalArgumentException` if what, s or k is out of range")
        static void asOfWrongArgumentsIsRefused() {
            Residentroll x = grown(1);
            for (int off : FAR_OFF) {
                refused(ARGUMENT, () -> x.asOf(0, off, TODAY, TODAY));
                refused(ARGUMENT, () -> x.asOf(0, IS, off, TODAY));
                refused(ARGUMENT, () -> x.asOf(0, IS, TODAY, off));
            }
            refused(ARGUMENT, () -> x.asOf(0, -1, TODAY, TODAY));
            refused(ARGUMENT, () -> x.asOf(0, 7, TODAY, TODAY));
            refused(ARGUMENT, () -> x.asOf(0, HOUSEHOLD, TODAY, 10001));
            refused(ARGUMENT, () -> x.asOf(0, HOUSEHOLD, 10001, TODAY));
        }
    }

    @Says("Promise 13")
    static final class Promise13 extends Checks {
        @Says("Tells of a PERSON on the day of now, as known now, as it is kept.")
        static void nowGoesOnWithDaysAndActs() {
            Residentroll x = new Residentroll();
            x.birth(10001 - 18 * YEAR, NONE, 4, 40);
            due(17, x.now(0, AGE));
            x.pass(1);
            due(18, x.now(0, AGE));
            x.birth(10001, 0, 4, 41);
            due(0, x.now(1, AGE));
            due(0, x.now(1, HOUSEHOLD));
            x.pass(5000);
            x.pass(18 * YEAR - 5001);
            due(17, x.now(1, AGE));
            due(0, x.now(1, HOUSEHOLD));
            x.pass(1);
            due(18, x.now(1, AGE));
            due(1, x.now(1, HOUSEHOLD));
            // an ACT of long ago changes what is now
            x.death(0, 10000);
            due(DEAD, x.now(0, IS));
            due(NONE, x.now(1, MOTHER));
            x.strike(2);
            due(0, x.now(1, MOTHER));
        }

        @Says("on the day of now, as known now, as it is kept.")
        static void daysThatPassLetNothingCountThatCouldNot() {
            Residentroll x = grown(4);
            x.tie(BOND, 0, 1, 5000);
            x.tie(BOND, 1, 2, 5001);
            x.tie(PARTING, 0, 1, 5002);
            x.tie(BOND, 0, 3, 5003);
            x.tie(ADOPTION, 0, 3, 250);
            x.naming(3, 250, 33);
            x.death(2, 150);
            for (int day = 0; day < 3; day++) {
                due(3, x.now(0, PARTNER));
                due(NONE, x.now(1, PARTNER));
                due(NONE, x.now(2, PARTNER));
                due(NONE, x.now(0, MOTHER));
                due(3, x.now(3, NAME));
                due(LIVING, x.now(2, IS));
                x.pass(1);
            }
        }

        @Says("`person`: a PERSON")
        static void nowIsOfAPerson() {
            Residentroll x = grown(24);
            for (int person = 0; person < 24; person++) {
                due(person, x.now(person, NAME));
            }
            refused(INDEX, () -> x.now(24, NAME));
            refused(INDEX, () -> x.now(-1, NAME));
        }

        @Says("`what`: 0 to 6 as of asOf()")
        static void nowTellsWhatAsOfTells() {
            Residentroll x = grown(6);
            x.tie(BOND, 4, 1, 9000);
            x.move(1, 9000, 4);
            x.tie(ADOPTION, 4, 2, 9000);
            x.death(3, 9000);
            x.join(0, 5);
            for (int person = 0; person < 6; person++) {
                for (int what = 0; what <= 6; what++) {
                    due(x.asOf(person, what, TODAY, TODAY), x.now(person, what));
                }
            }
            int[] due = {LIVING, 4, 4, 1, 2, 26, 1};
            for (int what = 0; what <= 6; what++) {
                due(due[what], x.now(4, what));
            }
        }

        @Says("Returns that.")
        static void askingOtherDaysLeavesNowAsItIs() {
            Residentroll x = grown(2);
            x.move(1, 9000, 9);
            x.asOf(1, IS_IN, 0, 0);
            due(9, x.now(1, IS_IN));
            x.changed(0, 0, TODAY);
            x.money(0, 0, 60, TODAY);
            x.households(0, 50, TODAY);
            due(9, x.now(1, IS_IN));
            due(27, x.now(1, AGE));
            due(1, x.now(1, HOUSEHOLD));
        }

        @Says("Throws `IndexOutOfBoundsException` if there is no such PERSON")
        static void nowOfNoSuchPersonIsRefused() {
            Residentroll x = grown(2);
            for (int none : new int[] {-1, -2, 2, 23, 24}) {
                refused(INDEX, () -> x.now(none, IS));
                refused(INDEX, () -> x.now(none, 7));
            }
            for (int none : FAR_OFF) {
                refused(INDEX, () -> x.now(none, IS));
            }
            refused(INDEX, () -> new Residentroll().now(0, IS));
        }

        @Says("Throws `IllegalArgumentException` if what is out of range")
        static void nowOfNothingElseIsTold() {
            Residentroll x = grown(1);
            refused(ARGUMENT, () -> x.now(0, -1));
            refused(ARGUMENT, () -> x.now(0, 7));
            for (int off : FAR_OFF) {
                refused(ARGUMENT, () -> x.now(0, off));
            }
        }
    }

    @Says("Promise 14")
    static final class Promise14 extends Checks {
        @Says("Returns how many households a DWELLING has on a day, as known on a day.")
        static void householdsAreCountedByTwoDays() {
            Residentroll x = new Residentroll();
            for (int i = 0; i < 4; i++) {
                x.birth(100 * i, NONE, 6, i);
            }
            x.pass(10);
            x.tie(BOND, 0, 3, 5000);
            for (int i = 1; i < 4; i++) {
                due(i, x.households(6, 100 * i - 1, TODAY));
                due(i + 1, x.households(6, 100 * i, TODAY));
            }
            due(4, x.households(6, 5000, 10009));
            due(3, x.households(6, 5000, 10010));
            due(4, x.households(6, 4999, 10010));
            due(0, x.households(6, 5000, 9999));
        }

        @Says("`dwelling`: 0 to 15")
        static void householdsAreOfADwelling() {
            Residentroll x = grown(18);
            for (int dwelling = 0; dwelling <= 15; dwelling++) {
                due(dwelling < 2 ? 2 : 1, x.households(dwelling, TODAY, TODAY));
            }
            refused(INDEX, () -> x.households(-1, TODAY, TODAY));
            refused(INDEX, () -> x.households(16, TODAY, TODAY));
        }

        @Says("`s`: the day S")
        static void householdsOnTheFirstAndTheLastDay() {
            Residentroll x = new Residentroll();
            x.birth(0, NONE, 0, 0);
            x.birth(TODAY, 0, 0, 0);
            x.birth(TODAY, NONE, 0, 0);
            due(1, x.households(0, 0, TODAY));
            due(1, x.households(0, TODAY - 1, TODAY));
            due(2, x.households(0, TODAY, TODAY));
            refused(ARGUMENT, () -> x.households(0, -1, TODAY));
            refused(ARGUMENT, () -> x.households(0, TODAY + 1, TODAY));
        }

        @Says("`k`: the day K")
        static void householdsAsKnownOnTheFirstAndTheLastDay() {
            Residentroll x = grown(1);
            due(0, x.households(0, TODAY, 0));
            due(0, x.households(0, TODAY, TODAY - 1));
            due(1, x.households(0, TODAY, TODAY));
            refused(ARGUMENT, () -> x.households(0, TODAY, -1));
            refused(ARGUMENT, () -> x.households(0, TODAY, TODAY + 1));
        }

        @Says("Returns how many.")
        static void thereAreNoneTo24Households() {
            Residentroll x = new Residentroll();
            for (int i = 0; i < 24; i++) {
                due(i, x.households(15, TODAY, TODAY));
                x.birth(100, NONE, 15, 0);
            }
            due(24, x.households(15, TODAY, TODAY));
            due(0, x.households(15, 99, TODAY));
            for (int i = 0; i < 24; i += 2) {
                x.tie(BOND, i, i + 1, 9000);
            }
            due(12, x.households(15, TODAY, TODAY));
        }

        @Says("Throws `IndexOutOfBoundsException` if there is no such DWELLING")
        static void householdsOfNoSuchDwellingAreRefused() {
            Residentroll x = grown(24);
            for (int none : new int[] {-1, -2, 16, 17, 23}) {
                refused(INDEX, () -> x.households(none, 0, 0));
                refused(INDEX, () -> x.households(none, -1, 10001));
            }
            for (int none : FAR_OFF) {
                refused(INDEX, () -> x.households(none, 0, 0));
            }
        }

        @Says("Throws `IllegalArgumentException` if s or k is out of range")
        static void householdsOfAWrongDayAreRefused() {
            Residentroll x = grown(1);
            for (int off : FAR_OFF) {
                refused(ARGUMENT, () -> x.households(0, off, 0));
                refused(ARGUMENT, () -> x.households(0, 0, off));
            }
            refused(ARGUMENT, () -> x.households(0, 10001, 0));
            refused(ARGUMENT, () -> x.households(0, 0, 10001));
            refused(ARGUMENT, () -> x.households(0, -1, 0));
            refused(ARGUMENT, () -> x.households(0, 0, -1));
            x.pass(1);
            due(1, x.households(0, 10001, 10001));
        }
    }

    @Says("Promise 15")
    static final class Promise15 extends Checks {
        @Says("Returns the money of an OFFICE: how many are LIVING in its DWELLINGS, on each day of a row, as known on a day, together.")
        static void moneyGoesByPersonsAndDays() {
            Residentroll x = grown(6);
            x.pass(10);
            x.move(0, 9010, 4);
            x.death(1, 9020);
            x.birth(9030, NONE, 3, 0);
            // 10 days of four, 10 of three, 10 of two, 10 of three
            due(40 + 30 + 20 + 30, x.money(0, 9000, 40, 10010));
            due(160, x.money(0, 9000, 40, 10009));
            due(0, x.money(0, 9000, 40, 9999));
            due(2 * 10 + 3 * 30, x.money(1, 9000, 40, 10010));
            due(0, x.money(2, 9000, 40, 10010));
        }

        @Says("`office`: 0 to 3")
        static void moneyIsOfAnOffice() {
            Residentroll x = grown(13);
            due(4, x.money(0, TODAY, 1, TODAY));
            due(4, x.money(1, TODAY, 1, TODAY));
            due(4, x.money(2, TODAY, 1, TODAY));
            due(1, x.money(3, TODAY, 1, TODAY));
            refused(INDEX, () -> x.money(-1, TODAY, 1, TODAY));
            refused(INDEX, () -> x.money(4, TODAY, 1, TODAY));
        }

        @Says("`from`: the first day of the row")
        static void theFirstDayIsOfTheRow() {
            Residentroll x = new Residentroll();
            x.birth(5000, NONE, 0, 0);
            x.death(0, 5001);
            due(1, x.money(0, 5000, 1, TODAY));
            due(0, x.money(0, 4999, 1, TODAY));
            due(0, x.money(0, 5001, 1, TODAY));
            due(1, x.money(0, 5000, 60, TODAY));
            due(1, x.money(0, 4941, 60, TODAY));
            due(0, x.money(0, 4940, 60, TODAY));
            due(0, x.money(0, 0, 60, TODAY));
            due(0, x.money(0, TODAY, 1, TODAY));
            refused(ARGUMENT, () -> x.money(0, -1, 1, TODAY));
            refused(ARGUMENT, () -> x.money(0, -1, 60, TODAY));
        }

        @Says("`many`: 1 to 60 days,")
        static void aRowHasOneTo60Days() {
            Residentroll x = grown(1);
            due(1, x.money(0, 0, 1, TODAY));
            due(60, x.money(0, 0, 60, TODAY));
            for (int from : new int[] {0, 1, 5000, TODAY - 60, TODAY}) {
                refused(ARGUMENT, () -> x.money(0, from, 0, TODAY));
                refused(ARGUMENT, () -> x.money(0, from, -1, TODAY));
                refused(ARGUMENT, () -> x.money(0, from, 61, TODAY));
            }
        }

        @Says("the last one not above the day of now")
        static void theLastDayIsNotAboveNow() {
            Residentroll x = grown(1);
            due(1, x.money(0, 10000, 1, TODAY));
            due(60, x.money(0, 9941, 60, TODAY));
            due(2, x.money(0, 9999, 2, TODAY));
            refused(ARGUMENT, () -> x.money(0, 10001, 1, TODAY));
            refused(ARGUMENT, () -> x.money(0, 10000, 2, TODAY));
            refused(ARGUMENT, () -> x.money(0, 9942, 60, TODAY));
            x.pass(1);
            due(60, x.money(0, 9942, 60, TODAY));
            // above now for sure, though the sum of both wraps around
            refused(ARGUMENT, () -> x.money(0, Integer.MAX_VALUE, 2, TODAY));
            refused(ARGUMENT, () -> x.money(0, Integer.MAX_VALUE - 58, 60, TODAY));
        }

        @Says("`k`: the day K")
        static void moneyGoesByTheDayOfKnowing() {
            Residentroll x = grown(1);
            due(0, x.money(0, 9000, 60, 0));
            due(0, x.money(0, 9000, 60, 9999));
            due(60, x.money(0, 9000, 60, 10000));
            refused(ARGUMENT, () -> x.money(0, 9000, 60, -1));
            refused(ARGUMENT, () -> x.money(0, 9000, 60, 10001));
        }

        @Says("Returns the sum.")
        static void theGreatestSumIsOf24PersonsAnd60Days() {
            Residentroll x = new Residentroll();
            for (int i = 0; i < 24; i++) {
                x.birth(0, NONE, 12 + i % 4, 0);
            }
            due(24 * 60, x.money(3, 9000, 60, TODAY));
            due(24, x.money(3, 0, 1, TODAY));
            due(0, x.money(2, 9000, 60, TODAY));
            due(0, new Residentroll().money(0, 9941, 60, TODAY));
        }

        @Says("Throws `IndexOutOfBoundsException` if there is no such OFFICE")
        static void moneyOfNoSuchOfficeIsRefused() {
            Residentroll x = grown(16);
            for (int none : new int[] {-1, -2, 4, 5, 15}) {
                refused(INDEX, () -> x.money(none, 0, 1, 0));
                refused(INDEX, () -> x.money(none, -1, 61, 10001));
            }
            for (int none : FAR_OFF) {
                refused(INDEX, () -> x.money(none, 0, 1, 0));
            }
        }

        @Says("Throws `IllegalArgumentException` if from, many or k is out of range")
        static void moneyOfWrongDaysIsRefused() {
            Residentroll x = grown(1);
            for (int off : FAR_OFF) {
                refused(ARGUMENT, () -> x.money(0, off, 1, 0));
                refused(ARGUMENT, () -> x.money(0, off, 60, 0));
                refused(ARGUMENT, () -> x.money(0, 0, off, 0));
                refused(ARGUMENT, () -> x.money(0, off, off, 0));
                refused(ARGUMENT, () -> x.money(0, 0, 1, off));
            }
            refused(ARGUMENT, () -> x.money(0, -1, 1, 0));
            refused(ARGUMENT, () -> x.money(0, 0, 61, 0));
            refused(ARGUMENT, () -> x.money(0, 0, 1, 10001));
            refused(ARGUMENT, () -> x.money(0, 10001, 0, 0));
            refused(ARGUMENT, () -> x.money(0, 1, Integer.MAX_VALUE, 0));
            refused(ARGUMENT, () -> x.money(0, -60, 60, 0));
        }
    }

    @Says("Promise 16")
    static final class Promise16 extends Checks {
        @Says("Returns of how many PERSONS what they are, their DWELLING, name, partner or mother on a day was not the same, as known on a day, as it is, as known on another one.")
        static void eachOfFiveThingsIsAChange() {
            due(1, changedBy(x -> x.death(0, 9000)));
            due(1, changedBy(x -> x.move(0, 9000, 9)));
            due(1, changedBy(x -> x.naming(0, 9000, 9)));
            due(2, changedBy(x -> x.tie(BOND, 0, 1, 9000)));
            due(1, changedBy(x -> x.tie(ADOPTION, 0, 1, 9000)));
            due(1, changedBy(x -> x.birth(9000, NONE, 0, 0)));
            due(1, changedBy(x -> x.join(0, 1)));
            due(1, changedBy(x -> x.strike(1)));
            due(0, changedBy(x -> x.move(0, 9000, 0)));
            due(0, changedBy(x -> x.naming(0, 9000, 0)));
            due(0, changedBy(x -> x.move(0, 9001, 9)));
            due(0, changedBy(x -> x.tie(PARTING, 0, 1, 9000)));
            due(1, changedBy(x -> x.move(0, 9000, 9) + x.naming(0, 9000, 9)));
            due(0, changedBy(x -> x.move(0, 8000, 9) + x.move(0, 9000, 0)));
        }

        @Says("what they are, their DWELLING, name, partner or mother on a day was not the same,")
        static void neitherAgeNorHouseholdIsAChange() {
            Residentroll x = new Residentroll();
            x.birth(5000, NONE, 0, 0);
            x.birth(4000, NONE, 0, 0);
            x.birth(9000, 0, 0, 0);
            x.pass(1);
            x.join(0, 1);
            due(16, x.asOf(0, AGE, TODAY, 10001));
            due(13, x.asOf(0, AGE, TODAY, 10000));
            due(1, x.changed(TODAY, 10000, 10001));
            x.pass(1);
            x.move(0, 9000, 1);
            due(0, x.asOf(2, HOUSEHOLD, TODAY, 10001));
            due(2, x.asOf(2, HOUSEHOLD, TODAY, 10002));
            due(1, x.changed(TODAY, 10001, 10002));
        }

        @Says("what they are,")
        static void fromUnbornToDoubleIsAChange() {
            Residentroll x = grown(2);
            x.pass(1);
            x.join(0, 1);
            due(UNBORN, x.asOf(1, IS, 99, 10000));
            due(DOUBLE, x.asOf(1, IS, 99, 10001));
            due(1, x.changed(99, 10000, 10001));
            due(1, x.changed(0, 10001, 10000));
        }

        private interface Telling {
            int tell(Residentroll x);
        }

        /** How many changed on day 9000 by what is told on a day after all else. */
        private static int changedBy(Telling telling) {
            Residentroll x = grown(2);
            x.pass(1);
            telling.tell(x);
            return x.changed(9000, 10000, 10001);
        }

        @Says("`s`: the day S")
        static void changesAreOfOneDay() {
            Residentroll x = grown(1);
            x.pass(10);
            x.move(0, 0, 5);
            x.move(0, 5000, 0);
            x.move(0, 10010, 6);
            due(1, x.changed(0, 10000, 10010));
            due(1, x.changed(4999, 10000, 10010));
            due(0, x.changed(5000, 10000, 10010));
            due(0, x.changed(10009, 10000, 10010));
            due(1, x.changed(10010, 10000, 10010));
            refused(ARGUMENT, () -> x.changed(-1, 10000, 10010));
            refused(ARGUMENT, () -> x.changed(10011, 10000, 10010));
        }

        @Says("`k`: the day K")
        static void changesAreSinceTheDayOfKnowing() {
            Residentroll x = grown(2);
            x.pass(10);
            x.move(0, 9000, 5);
            due(2, x.changed(9000, 0, 10010));
            due(2, x.changed(9000, 9999, 10010));
            due(1, x.changed(9000, 10000, 10010));
            due(1, x.changed(9000, 10009, 10010));
            due(0, x.changed(9000, 10010, 10010));
            refused(ARGUMENT, () -> x.changed(9000, -1, 10010));
            refused(ARGUMENT, () -> x.changed(9000, 10011, 10010));
        }

        @Says("`later`: another day, as K")
        static void theOtherDayMayBeEarlierOrTheSame() {
            Residentroll x = grown(2);
            x.pass(10);
            x.move(0, 9000, 5);
            due(1, x.changed(9000, 10010, 10009));
            due(2, x.changed(9000, 10010, 0));
            due(2, x.changed(9000, 10000, 9999));
            due(0, x.changed(9000, 10000, 10000));
            due(0, x.changed(9000, 0, 0));
            due(0, x.changed(9000, 9999, 0));
            refused(ARGUMENT, () -> x.changed(9000, 10010, -1));
            refused(ARGUMENT, () -> x.changed(9000, 10010, 10011));
        }

        @Says("Returns how many.")
        static void noneTo24Changed() {
            Residentroll x = grown(24);
            due(0, x.changed(TODAY, TODAY, TODAY));
            due(24, x.changed(TODAY, 0, TODAY));
            due(24, x.changed(2300, 0, TODAY));
            due(23, x.changed(2299, 0, TODAY));
            due(1, x.changed(0, 0, TODAY));
            due(0, new Residentroll().changed(TODAY, 0, TODAY));
        }

        @Says("Throws `IllegalArgumentException` if an argument is out of range")
        static void changesOfWrongDaysAreRefused() {
            Residentroll x = grown(1);
            for (int off : FAR_OFF) {
                refused(ARGUMENT, () -> x.changed(off, 0, 0));
                refused(ARGUMENT, () -> x.changed(0, off, 0));
                refused(ARGUMENT, () -> x.changed(0, 0, off));
            }
            for (int off : new int[] {-1, 10001}) {
                refused(ARGUMENT, () -> x.changed(off, 0, 0));
                refused(ARGUMENT, () -> x.changed(0, off, 0));
                refused(ARGUMENT, () -> x.changed(0, 0, off));
            }
            x.pass(1);
            due(0, x.changed(10001, 10001, 10001));
        }
    }

    @Says("Promise 17")
    static final class Promise17 extends Checks {
        /** PERSON 3 was born of 0 and is adopted by 1; 2 and 4 have no part in it. */
        private static Residentroll adopted() {
            Residentroll x = grown(3);
            x.birth(5000, 0, 0, 3);
            x.birth(5000, 0, 0, 4);
            x.tie(ADOPTION, 3, 1, 6000);
            return x;
        }

        @Says("Returns the mother whom the BIRTH of a PERSON tells, by what is known now on the day of now, for somebody who asks;")
        static void theMotherOfBirthIsTold() {
            Residentroll x = grown(2);
            x.birth(5000, 1, 0, 2);
            due(1, x.origin(2, NONE));
            for (int asker = 0; asker < 3; asker++) {
                due(1, x.origin(2, asker));
            }
            due(NONE, x.origin(1, NONE));
            // what is known now: with the BIRTH of the mother struck she is none
            x.strike(1);
            due(NONE, x.origin(2, NONE));
        }

        @Says("of who is adopted she is HIDDEN,")
        static void ofWhoIsAdoptedTheOriginIsHidden() {
            Residentroll x = adopted();
            for (int asker : new int[] {NONE, 0, 2, 4}) {
                due(HIDDEN, x.origin(3, asker));
                due(0, x.origin(4, asker));
            }
            x.strike(5);
            due(0, x.origin(3, NONE));
            // the first and the last PERSON are adopted, and are not any more
            Residentroll y = grown(24);
            y.tie(ADOPTION, 0, 23, 6000);
            y.tie(ADOPTION, 23, 0, 6000);
            due(HIDDEN, y.origin(0, 1));
            due(HIDDEN, y.origin(23, 1));
            y.strike(24);
            due(NONE, y.origin(0, 1));
            due(HIDDEN, y.origin(23, 1));
            y.strike(25);
            due(NONE, y.origin(23, 1));
        }

        @Says("whether there is one or not,")
        static void theOriginIsHiddenAlsoIfThereIsNone() {
            Residentroll x = grown(3);
            x.tie(ADOPTION, 2, 1, 6000);
            due(HIDDEN, x.origin(2, NONE));
            due(HIDDEN, x.origin(2, 0));
            due(NONE, x.origin(2, 1));
            due(NONE, x.origin(2, 2));
        }

        @Says("for all but that PERSON itself and its mother of now.")
        static void thePersonAndItsMotherOfNowMaySee() {
            Residentroll x = adopted();
            due(0, x.origin(3, 3));
            due(0, x.origin(3, 1));
            x.tie(ADOPTION, 3, 2, 7000);
            due(HIDDEN, x.origin(3, 1));
            due(0, x.origin(3, 2));
            x.tie(ADOPTION, 3, 0, 8000);
            due(HIDDEN, x.origin(3, 2));
            due(0, x.origin(3, 0));
            // a mother who is DEAD, and a PERSON who is, may see as well
            x.death(0, 9000);
            x.death(3, 9000);
            due(0, x.origin(3, 0));
            due(0, x.origin(3, 3));
        }

        @Says("(Who asks and is a DOUBLE asks as the PERSON of whom it is one.)")
        static void aDoubleAsksAsThePerson() {
            Residentroll x = adopted();
            x.birth(5000, NONE, 0, 5);
            x.birth(5000, NONE, 0, 6);
            due(HIDDEN, x.origin(3, 5));
            x.join(1, 5);
            due(0, x.origin(3, 5));
            due(HIDDEN, x.origin(3, 6));
            // a double of a double, and a double of the PERSON itself
            x.join(5, 6);
            due(0, x.origin(3, 6));
            x.join(3, 6);
            due(0, x.origin(3, 6));
            x.join(2, 6);
            due(HIDDEN, x.origin(3, 6));
            // the mother as a double: the PERSON at the end is the mother then
            Residentroll y = adopted();
            y.join(0, 1);
            due(0, y.origin(3, 0));
            due(0, y.origin(3, 1));
            due(HIDDEN, y.origin(3, 2));
        }

        @Says("`person`: a PERSON")
        static void theOriginIsOfAPerson() {
            Residentroll x = grown(23);
            x.birth(5000, 22, 0, 0);
            due(22, x.origin(23, NONE));
            due(NONE, x.origin(0, NONE));
            refused(INDEX, () -> x.origin(24, NONE));
            refused(INDEX, () -> x.origin(-1, NONE));
        }

        @Says("`asker`: a PERSON, or NONE")
        static void anAskerIsAPersonOrNone() {
            Residentroll x = grown(23);
            x.birth(5000, 22, 0, 0);
            for (int asker = NONE; asker < 24; asker++) {
                due(22, x.origin(23, asker));
            }
            refused(INDEX, () -> x.origin(23, -2));
            refused(INDEX, () -> x.origin(23, 24));
        }

        @Says("Returns she, as she was by the BIRTH that counts;")
        static void theBirthThatCountsTellsTheMother() {
            Residentroll x = grown(2);
            x.birth(5000, 0, 0, 2);
            x.birth(4000, 1, 0, 3);
            due(0, x.origin(2, NONE));
            x.join(2, 3);
            due(1, x.origin(2, NONE));
            x.strike(3);
            due(0, x.origin(2, NONE));
            // the mother's double: told as the PERSON, as the BIRTH that counts has it
            x.join(0, 1);
            x.birth(6000, 1, 0, 4);
            due(0, x.origin(4, NONE));
        }

        @Says("NONE if there is none, or the PERSON is UNBORN or a DOUBLE")
        static void whoIsUnbornOrADoubleHasNoOrigin() {
            Residentroll x = adopted();
            due(NONE, x.origin(0, NONE));
            due(NONE, x.origin(0, 0));
            x.join(3, 4);
            due(NONE, x.origin(4, NONE));
            due(NONE, x.origin(4, 4));
            due(HIDDEN, x.origin(3, NONE));
            due(0, x.origin(3, 4));
            x.strike(3);
            x.strike(4);
            // UNBORN, so no ADOPTION counts
            due(UNBORN, x.now(3, IS));
            for (int asker = NONE; asker < 5; asker++) {
                due(NONE, x.origin(3, asker));
            }
        }

        @Says("(one who is DEAD has one as well);")
        static void whoIsDeadHasAnOrigin() {
            Residentroll x = adopted();
            x.death(4, 7000);
            due(0, x.origin(4, NONE));
            x.death(0, 8000);
            due(0, x.origin(4, NONE));
            x.death(3, 7000);
            due(HIDDEN, x.origin(3, NONE));
            due(0, x.origin(3, 1));
        }

        @Says("HIDDEN.")
        static void hiddenIsNoPersonAndNotNone() {
            Residentroll x = adopted();
            due(-2, x.origin(3, NONE));
            due(-2, x.origin(3, 4));
        }

        @Says("Throws `IndexOutOfBoundsException` if there is no such PERSON (and asker is not NONE)")
        static void theOriginOfOrForNoSuchPersonIsRefused() {
            Residentroll x = grown(2);
            for (int none : new int[] {-2, -3, 2, 23, 24}) {
                refused(INDEX, () -> x.origin(none, NONE));
                refused(INDEX, () -> x.origin(0, none));
            }
            for (int none : FAR_OFF) {
                refused(INDEX, () -> x.origin(none, NONE));
                refused(INDEX, () -> x.origin(0, none));
            }
            refused(INDEX, () -> x.origin(NONE, NONE));
            refused(INDEX, () -> x.origin(NONE, 0));
            refused(INDEX, () -> new Residentroll().origin(0, NONE));
        }
    }

    @Says("Promise 18")
    static final class Promise18 extends Checks {
        /** Two PERSONS of unlike names in unlike DWELLINGS, born on these days. */
        private static Residentroll bornOn(int first, int second) {
            Residentroll x = new Residentroll();
            x.birth(first, NONE, 0, 0);
            x.birth(second, NONE, 1, 1);
            return x;
        }

        @Says("Returns how like two PERSONS are, by what is known now on the day of now:")
        static void likenessGoesByNow() {
            Residentroll x = bornOn(5000, 6000);
            due(0, x.likeness(0, 1));
            x.naming(1, 9000, 0);
            due(3, x.likeness(0, 1));
            x.pass(5);
            x.move(1, 10005, 0);
            due(5, x.likeness(0, 1));
            x.birth(5000, NONE, 2, 2);
            x.join(1, 2);
            due(10, x.likeness(0, 1));
            x.strike(5);
            due(5, x.likeness(0, 1));
            x.naming(0, 10005, 999);
            due(2, x.likeness(1, 0));
        }

        @Says("5 if they were born on the same day,")
        static void theSameDayIsFive() {
            due(5, bornOn(5000, 5000).likeness(0, 1));
            due(5, bornOn(0, 0).likeness(1, 0));
            due(5, bornOn(10000, 10000).likeness(0, 1));
            due(2, bornOn(5000, 5001).likeness(0, 1));
            due(2, bornOn(5001, 5000).likeness(0, 1));
        }

        @Says("otherwise 2 if on days that are off by 31 at most;")
        static void thirtyOneDaysOffAreTwo() {
            for (int off = 1; off <= 33; off++) {
                due(off <= 31 ? 2 : 0, bornOn(5000, 5000 + off).likeness(0, 1));
                due(off <= 31 ? 2 : 0, bornOn(5000, 5000 - off).likeness(0, 1));
                due(off <= 31 ? 2 : 0, bornOn(5000, 5000 + off).likeness(1, 0));
            }
            due(0, bornOn(0, 10000).likeness(0, 1));
            due(0, bornOn(10000, 0).likeness(0, 1));
        }

        @Says("3 more with the same name;")
        static void theSameNameIsThreeMore() {
            Residentroll x = bornOn(5000, 5000);
            x.naming(0, 9000, 1);
            due(8, x.likeness(0, 1));
            x.naming(0, 9001, 0);
            due(5, x.likeness(0, 1));
            x.naming(1, 9001, 0);
            due(8, x.likeness(0, 1));
            // the name of who is DEAD, too
            x.death(0, 9002);
            due(8, x.likeness(0, 1));
            x.death(1, 9002);
            due(8, x.likeness(0, 1));
            Residentroll y = bornOn(5000, 6000);
            y.naming(0, 9000, 1);
            due(3, y.likeness(0, 1));
        }

        @Says("2 more if they are LIVING in the same DWELLING.")
        static void theSameDwellingIsTwoMore() {
            Residentroll x = bornOn(5000, 5000);
            x.move(1, 9000, 0);
            due(7, x.likeness(0, 1));
            x.death(0, 9500);
            due(5, x.likeness(0, 1));
            x.death(1, 9500);
            due(5, x.likeness(0, 1));
            Residentroll y = bornOn(5000, 6000);
            y.move(0, 9000, 1);
            due(2, y.likeness(1, 0));
            y.naming(0, 9000, 1);
            due(5, y.likeness(1, 0));
            // all of it
            Residentroll z = bornOn(5000, 5000);
            z.move(0, 9000, 1);
            z.naming(0, 9000, 1);
            due(10, z.likeness(1, 0));
        }

        @Says("`person`: a PERSON")
        static void likenessIsOfAPerson() {
            Residentroll x = grown(24);
            due(2, x.likeness(0, 16));
            due(2, x.likeness(23, 7));
            refused(INDEX, () -> x.likeness(24, 0));
            refused(INDEX, () -> x.likeness(-1, 0));
        }

        @Says("`other`: another one")
        static void likenessIsToAnotherOne() {
            Residentroll x = grown(24);
            due(2, x.likeness(16, 0));
            due(2, x.likeness(7, 23));
            refused(INDEX, () -> x.likeness(0, 24));
            refused(INDEX, () -> x.likeness(0, -1));
            refused(ARGUMENT, () -> x.likeness(0, 0));
            refused(ARGUMENT, () -> x.likeness(23, 23));
        }

        @Says("Returns that; 0 if one of them is UNBORN or a DOUBLE.")
        static void whoIsUnbornOrADoubleIsLikeNobody() {
            Residentroll x = new Residentroll();
            for (int i = 0; i < 4; i++) {
                x.birth(0, NONE, 0, 0);
            }
            due(10, x.likeness(2, 3));
            x.strike(0);
            x.join(1, 2);
            int[][] none = {{0, 1}, {1, 0}, {0, 2}, {2, 0}, {1, 2}, {2, 1}, {2, 3}, {3, 2}, {0, 3}, {3, 0}};
            for (int[] pair : none) {
                due(0, x.likeness(pair[0], pair[1]));
            }
            due(10, x.likeness(1, 3));
            x.strike(1);
            x.strike(2);
            // two who are UNBORN are not like each other
            due(UNBORN, x.now(1, IS));
            due(0, x.likeness(0, 1));
        }

        @Says("Throws `IndexOutOfBoundsException` if there is no such PERSON, of both")
        static void likenessOfNoSuchPersonIsRefused() {
            Residentroll x = grown(2);
            for (int none : new int[] {-1, -2, 2, 23, 24}) {
                refused(INDEX, () -> x.likeness(none, 0));
                refused(INDEX, () -> x.likeness(0, none));
                refused(INDEX, () -> x.likeness(none, none));
            }
            for (int none : FAR_OFF) {
                refused(INDEX, () -> x.likeness(none, 0));
                refused(INDEX, () -> x.likeness(0, none));
            }
        }

        @Says("Throws `IllegalArgumentException` if both are the same")
        static void likenessToOneselfIsRefused() {
            Residentroll x = grown(3);
            x.strike(1);
            x.join(0, 2);
            for (int person = 0; person < 3; person++) {
                int same = person;
                refused(ARGUMENT, () -> x.likeness(same, same));
            }
            // a double and its PERSON are two
            due(0, x.likeness(0, 2));
        }
    }

    @Says("Promise 19")
    static final class Promise19 extends Checks {
        @Says("Returns the lowest other PERSON whose likeness is 8 or more.")
        static void theLowestOtherOneOf8OrMoreIsTold() {
            Residentroll x = new Residentroll();
            x.birth(5000, NONE, 0, 7);
            x.birth(5000, NONE, 0, 8);
            x.birth(5001, NONE, 0, 7);
            x.birth(5000, NONE, 3, 7);
            x.birth(5000, NONE, 0, 7);
            // the likenesses to 0 are 7, 7, 8 and 10
            due(3, x.doubleOf(0));
            due(NONE, x.doubleOf(1));
            due(NONE, x.doubleOf(2));
            due(0, x.doubleOf(3));
            due(0, x.doubleOf(4));
            x.naming(3, 9000, 9);
            due(4, x.doubleOf(0));
            due(NONE, x.doubleOf(3));
        }

        @Says("`person`: a PERSON")
        static void theDoubleIsOfAPerson() {
            Residentroll x = grown(24);
            x.naming(23, 9000, 22);
            due(NONE, x.doubleOf(0));
            due(NONE, x.doubleOf(23));
            refused(INDEX, () -> x.doubleOf(24));
            refused(INDEX, () -> x.doubleOf(-1));
        }

        @Says("Returns the number;")
        static void theLastPersonCanBeTheDouble() {
            Residentroll x = grown(22);
            x.birth(9000, NONE, 5, 500);
            x.birth(9000, NONE, 6, 500);
            due(23, x.doubleOf(22));
            due(22, x.doubleOf(23));
        }

        @Says("NONE without.")
        static void nobodyIsTheDoubleOfOneAlone() {
            Residentroll x = grown(1);
            due(NONE, x.doubleOf(0));
            x.birth(0, NONE, 0, 0);
            due(1, x.doubleOf(0));
            x.join(0, 1);
            due(NONE, x.doubleOf(0));
            due(NONE, x.doubleOf(1));
            x.strike(2);
            due(1, x.doubleOf(0));
            x.strike(0);
            due(NONE, x.doubleOf(0));
            due(NONE, x.doubleOf(1));
        }

        @Says("Throws `IndexOutOfBoundsException` if there is no such PERSON")
        static void theDoubleOfNoSuchPersonIsRefused() {
            Residentroll x = grown(2);
            for (int none : new int[] {-1, -2, 2, 23, 24}) {
                refused(INDEX, () -> x.doubleOf(none));
            }
            for (int none : FAR_OFF) {
                refused(INDEX, () -> x.doubleOf(none));
            }
            refused(INDEX, () -> new Residentroll().doubleOf(0));
        }
    }
}
